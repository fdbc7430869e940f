import java.util.ArrayList;
import java.util.Collections;
import java.util.HashMap;
import java.util.LinkedHashMap;
import java.util.LinkedHashSet;
import java.util.List;
import java.util.Map;
import java.util.Random;
import java.util.function.Function;

/**
 * All promises at once: runs of at most 512 calls, from fixed seeds, whose answers are held
 * against a second reading of the document, written here with the Java library.
 */
public final class ModelTest {
    private static final int RUNS = 3000;
    private static final int CALLS = 512;

    private final Check check;
    private final Random random;
    private final GraphQuery q = new GraphQuery();
    private final Model model = new Model();
    private final String run;
    private int calls = 0;

    private ModelTest(Check check, long seed) {
        this.check = check;
        this.random = new Random(seed);
        this.run = "run " + seed + ": ";
    }

    public static void main(String[] args) {
        Check check = new Check();
        for (long seed = 0; seed < RUNS; seed++) {
            new ModelTest(check, seed).play();
        }
        check.end("ModelTest");
    }

    private void play() {
        int size = random.nextInt(4) == 0 ? 30 : random.nextInt(14);
        for (int i = 0; i < size; i++) {
            target();
        }
        int links = random.nextInt(size * 4 + 1);
        for (int i = 0; i < links && calls < CALLS / 2; i++) {
            needs();
        }
        while (calls < CALLS) {
            int which = random.nextInt(20);
            if (which == 0) {
                target();
            } else if (which <= 2) {
                needs();
            } else if (which <= 4) {
                look();
            } else {
                question();
            }
        }
    }

    private boolean spent() {
        calls++;
        return calls > CALLS;
    }

    private int near(int most) {
        return random.nextInt(most + 3) - 1;
    }

    private void target() {
        int pack = near(5);
        int digit = near(9);
        int kind = random.nextInt(8) == 0 ? near(3) : random.nextInt(4);
        if (!spent()) {
            check.same(run + "target", q.target(pack, digit, kind), model.target(pack, digit, kind));
        }
    }

    private void needs() {
        int t = near(model.names.size());
        int other = near(model.names.size());
        if (!spent()) {
            check.same(run + "needs", q.needs(t, other), model.needs(t, other));
        }
    }

    private void look() {
        int t = near(model.names.size());
        int other = near(model.names.size());
        int n = near(7);
        if (spent()) {
            return;
        }
        switch (random.nextInt(4)) {
            case 0:
                check.same(run + "need " + t + " " + n, q.need(t, n), model.need(t, n));
                break;
            case 1:
                check.same(run + "far " + t + " " + other, q.far(t, other), model.far(t, other));
                break;
            case 2:
                check.same(run + "ways " + t + " " + other + " " + n, q.ways(t, other, n),
                    model.ways(t, other, n));
                break;
            default:
                check.same(run + "nearest", q.nearest(), model.nearest());
                break;
        }
    }

    private void question() {
        String text = spoilt(sum(random.nextInt(5), ""));
        if (text.length() > 82) {
            text = text.substring(0, 82);
        }
        for (int i = 0; i < text.length(); i++) {
            if (spent()) {
                return;
            }
            check.same(run + "type", q.type(text.charAt(i)), model.type(text.charAt(i)));
        }
        if (spent()) {
            return;
        }
        check.same(run + "ask '" + text + "'", q.ask(), model.ask());
        for (int i = -1; i <= model.answer.size() && random.nextInt(3) > 0; i++) {
            if (!spent()) {
                check.same(run + "answer of '" + text + "'", q.answer(i), model.answer(i));
            }
        }
        if (!spent()) {
            check.same(run + "work of '" + text + "'", q.work(), model.work);
        }
        if (!spent()) {
            check.same(run + "nearest", q.nearest(), model.nearest());
        }
    }

    private String spoilt(String text) {
        if (random.nextInt(3) > 0) {
            return text;
        }
        String signs = "()+-&,=aAfg019 #letin" + (char) 31 + (char) 127 + (char) 300;
        StringBuilder changed = new StringBuilder(text);
        int at = random.nextInt(text.length());
        switch (random.nextInt(4)) {
            case 0:
                changed.deleteCharAt(at);
                break;
            case 1:
                changed.setLength(at);
                break;
            case 2:
                changed.setCharAt(at, signs.charAt(random.nextInt(signs.length())));
                break;
            default:
                changed.insert(at, signs.charAt(random.nextInt(signs.length())));
                break;
        }
        return changed.toString();
    }

    private String blank() {
        return " ".repeat(Math.max(0, random.nextInt(8) - 5));
    }

    private String sum(int deep, String letters) {
        StringBuilder text = new StringBuilder(term(deep, letters));
        while (random.nextInt(5) < 2) {
            text.append(blank()).append("+-&".charAt(random.nextInt(3))).append(blank());
            text.append(term(deep - 1, letters));
        }
        return blank() + text + blank();
    }

    private String leaf(String letters) {
        int which = random.nextInt(8);
        if (which < 3 && !letters.isEmpty()) {
            return "" + letters.charAt(random.nextInt(letters.length()));
        }
        if (which == 3) {
            return "all";
        }
        if (which == 4 && random.nextInt(8) == 0) {
            return "" + (char) ('A' + random.nextInt(3));
        }
        if (model.names.isEmpty() || random.nextInt(30) == 0) {
            return "" + (char) ('a' + random.nextInt(6)) + random.nextInt(10);
        }
        return model.names.get(random.nextInt(model.names.size()));
    }

    private String rounds() {
        return random.nextBoolean() ? "" : "," + blank() + random.nextInt(random.nextBoolean() ? 4 : 110);
    }

    private String term(int deep, String letters) {
        if (deep <= 0) {
            return leaf(letters);
        }
        switch (random.nextInt(9)) {
            case 0:
                return "(".repeat(random.nextInt(12) + 1) + sum(deep - 1, letters)
                    + ")".repeat(random.nextInt(12) + 1);
            case 1:
                return "(" + sum(deep - 1, letters) + ")";
            case 2:
                return "deps(" + sum(deep - 1, letters) + rounds() + ")";
            case 3:
                return "users(" + sum(deep - 1, letters) + rounds() + ")";
            case 4:
                return "way(" + sum(deep - 1, letters) + "," + sum(deep - 1, letters) + ")";
            case 5:
                return "kind(" + random.nextInt(5) + "," + sum(deep - 1, letters) + ")";
            case 6:
                return "tests(" + sum(deep - 1, letters) + ")";
            case 7:
                return "same(" + sum(deep - 1, letters) + ")";
            default:
                char letter = (char) ('A' + random.nextInt(3));
                return "let " + letter + "=" + sum(deep - 1, letters) + " in "
                    + sum(deep - 1, letters + letter);
        }
    }

    /** A text that can't be: where. */
    private static final class Ill extends RuntimeException {
        private static final long serialVersionUID = 1L;
        final int place;

        Ill(int place) {
            super(null, null, false, false);
            this.place = place;
        }
    }

    private interface Part extends Function<Map<Character, List<Integer>>, List<Integer>> {
    }

    private static final class Model {
        final List<String> names = new ArrayList<>();
        final List<Integer> kinds = new ArrayList<>();
        final List<List<Integer>> needs = new ArrayList<>();
        String text = "";
        List<Integer> answer = new ArrayList<>();
        String missed = null;
        int work = 0;
        int sum = 0;
        int at = 0;
        int firstMissed = -1;

        int target(int pack, int digit, int kind) {
            String name = "" + (char) ('a' + pack) + digit;
            if (!name.matches("[a-f][0-9]") || kind < 0 || kind > 3 || names.contains(name)
                    || names.size() == 30) {
                return -1;
            }
            names.add(name);
            kinds.add(kind);
            needs.add(new ArrayList<>());
            return names.size() - 1;
        }

        boolean none(int t) {
            return t < 0 || t >= names.size();
        }

        boolean needs(int t, int other) {
            if (none(t) || none(other) || needs.get(t).contains(other) || needs.get(t).size() == 8) {
                return false;
            }
            return needs.get(t).add(other);
        }

        int need(int t, int i) {
            return none(t) || i < 0 || i >= needs.get(t).size() ? -1 : needs.get(t).get(i);
        }

        boolean type(char c) {
            if (c < 32 || c > 126 || text.length() == 80) {
                return false;
            }
            text += c;
            return true;
        }

        int answer(int i) {
            return i < 0 || i >= answer.size() ? -1 : answer.get(i);
        }

        int nearest() {
            if (missed == null) {
                return -1;
            }
            for (int letter = 0; letter < 2; letter++) {
                int like = letter;
                int other = 1 - letter;
                int best = -1;
                for (int t = 0; t < names.size(); t++) {
                    String name = names.get(t);
                    if (name.charAt(like) != missed.charAt(like)) {
                        continue;
                    }
                    if (best < 0 || gap(name, other) < gap(names.get(best), other)) {
                        best = t;
                    }
                }
                if (best >= 0) {
                    return best;
                }
            }
            return -1;
        }

        // doubled, with one more for the greater side, so that no two are alike
        int gap(String name, int which) {
            int differs = name.charAt(which) - missed.charAt(which);
            return differs > 0 ? 2 * differs + 1 : -2 * differs;
        }

        int far(int t, int other) {
            if (none(t) || none(other)) {
                return -1;
            }
            int[] steps = new int[names.size()];
            java.util.Arrays.fill(steps, 1000);
            steps[t] = 0;
            for (int again = 0; again < steps.length; again++) {
                for (int a = 0; a < steps.length; a++) {
                    for (int b : needs.get(a)) {
                        steps[b] = Math.min(steps[b], steps[a] + 1);
                    }
                }
            }
            return steps[other] >= 1000 ? -1 : steps[other];
        }

        int ways(int t, int other, int steps) {
            if (none(t) || none(other) || steps < 0 || steps > 6) {
                return -1;
            }
            return walks(t, other, steps, new ArrayList<>(List.of(t)));
        }

        int walks(int t, int other, int steps, List<Integer> passed) {
            if (t == other) {
                return 1;
            }
            int found = 0;
            for (int next : needs.get(t)) {
                if (steps > 0 && !passed.contains(next)) {
                    passed.add(next);
                    found += walks(next, other, steps - 1, passed);
                    passed.remove(passed.size() - 1);
                }
            }
            return found;
        }

        int ask() {
            at = 0;
            firstMissed = -1;
            sum = 0;
            Part part;
            try {
                part = readSum(0, "");
                if (!peek().isEmpty()) {
                    throw new Ill(at);
                }
            } catch (Ill ill) {
                text = "";
                return -1 - ill.place;
            }
            if (firstMissed >= 0) {
                missed = text.substring(firstMissed, firstMissed + 2);
                text = "";
                return -101 - firstMissed;
            }
            text = "";
            answer = part.apply(new HashMap<>());
            work = sum;
            return answer.size();
        }

        // The token at hand; at is moved to its first character.
        String peek() {
            while (at < text.length() && text.charAt(at) == ' ') {
                at++;
            }
            String rest = text.substring(at);
            String row = rest.replaceFirst("(?s)[^a-zA-Z0-9].*", "");
            return !row.isEmpty() ? row : rest.isEmpty() ? "" : rest.substring(0, 1);
        }

        String take(String form) {
            String token = peek();
            if (!token.matches(form)) {
                throw new Ill(at);
            }
            at += token.length();
            return token;
        }

        Part readSum(int within, String letters) {
            Part left = readTerm(within, letters);
            while (peek().matches("[-+&]")) {
                String join = take("[-+&]");
                Part a = left;
                Part b = readTerm(within, letters);
                left = env -> {
                    List<Integer> made = new ArrayList<>(a.apply(env));
                    List<Integer> right = b.apply(env);
                    if (join.equals("&")) {
                        made.retainAll(right);
                    } else {
                        List<Integer> had = new ArrayList<>(made);
                        made.removeAll(right);
                        if (join.equals("+")) {
                            made = new ArrayList<>(had);
                            right.removeAll(had);
                            made.addAll(right);
                        }
                    }
                    return counted(made);
                };
            }
            return left;
        }

        List<Integer> counted(List<Integer> made) {
            sum += made.size();
            return made;
        }

        Part readTerm(int within, String letters) {
            String token = peek();
            if (within == 12) {
                throw new Ill(at);
            }
            if (token.matches("[a-f][0-9]")) {
                if (!names.contains(token) && firstMissed < 0) {
                    firstMissed = at;
                }
                take("..");
                return env -> counted(new ArrayList<>(List.of(names.indexOf(token))));
            }
            if (token.matches("[A-Z]") && letters.contains(token)) {
                take(".");
                return env -> counted(new ArrayList<>(env.get(token.charAt(0))));
            }
            if (token.equals("let")) {
                return readLet(within, letters);
            }
            take("\\(|all|deps|users|way|kind|tests|same");
            if (token.equals("all")) {
                return env -> counted(everyone());
            }
            return readBrackets(token, within + 1, letters);
        }

        Part readLet(int within, String letters) {
            take("let");
            String letter = take("[A-Z]");
            take("=");
            Part first = readSum(within + 1, letters);
            take("in");
            Part second = readSum(within + 1, letters + letter);
            return env -> {
                Map<Character, List<Integer>> inner = new HashMap<>(env);
                inner.put(letter.charAt(0), first.apply(env));
                return second.apply(inner);
            };
        }

        Part readBrackets(String word, int within, String letters) {
            if (word.equals("(")) {
                Part inside = readSum(within, letters);
                take("\\)");
                return inside;
            }
            take("\\(");
            int number = 1000;
            if (word.equals("kind")) {
                number = Integer.parseInt(take("[0-9]{1,2}"));
                take(",");
            }
            Part a = readSum(within, letters);
            Part b = null;
            if (word.equals("way")) {
                take(",");
                b = readSum(within, letters);
            } else if (word.matches("deps|users") && peek().equals(",")) {
                take(",");
                number = Integer.parseInt(take("[0-9]{1,2}"));
            }
            take("\\)");
            int n = number;
            Part second = b;
            return env -> counted(made(word, n, a.apply(env), second == null ? null : second.apply(env)));
        }

        List<Integer> everyone() {
            List<Integer> all = new ArrayList<>();
            for (int t = 0; t < names.size(); t++) {
                all.add(t);
            }
            return all;
        }

        List<Integer> made(String word, int n, List<Integer> a, List<Integer> b) {
            List<Integer> all = everyone();
            switch (word) {
                case "deps":
                    return new ArrayList<>(spread(a, n, true).keySet());
                case "users":
                    return new ArrayList<>(spread(a, n, false).keySet());
                case "way":
                    return way(spread(a, 1000, true), b);
                case "kind":
                    a.removeIf(t -> kinds.get(t) != n);
                    return a;
                case "tests":
                    all.removeIf(t -> kinds.get(t) != 3 || a.stream().allMatch(x -> far(t, x) < 0));
                    return all;
                default:
                    all.removeIf(t -> a.stream().allMatch(
                        x -> names.get(x).charAt(0) != names.get(t).charAt(0)));
                    return all;
            }
        }

        /** All that come, in their order, each with the one for which it came. */
        Map<Integer, Integer> spread(List<Integer> first, int rounds, boolean byNeeds) {
            Map<Integer, Integer> came = new LinkedHashMap<>();
            for (int t : first) {
                came.put(t, -1);
            }
            List<Integer> round = first;
            for (int i = 0; i < rounds && !round.isEmpty(); i++) {
                LinkedHashSet<Integer> next = new LinkedHashSet<>();
                for (int t : round) {
                    List<Integer> others = byNeeds ? needs.get(t) : everyone();
                    for (int other : others) {
                        boolean linked = byNeeds || needs.get(other).contains(t);
                        if (linked && came.putIfAbsent(other, t) == null) {
                            next.add(other);
                        }
                    }
                }
                round = new ArrayList<>(next);
            }
            return came;
        }

        List<Integer> way(Map<Integer, Integer> came, List<Integer> goals) {
            List<Integer> row = new ArrayList<>();
            for (int t : came.keySet()) {
                if (goals.contains(t)) {
                    for (int x = t; x >= 0; x = came.get(x)) {
                        row.add(x);
                    }
                    break;
                }
            }
            Collections.reverse(row);
            return row;
        }
    }
}
