/** Questions over a graph of targets, told as texts; see the README for the form of a text. */
public final class GraphQuery {
    public static final int NONE = -1;

    private static final int MOST_TARGETS = 30;
    private static final int MOST_NEEDS = 8;
    private static final int PACKS = 6;
    private static final int DIGITS = 10;
    private static final int KINDS = 4;
    private static final int TEST_KIND = 3;
    private static final int MOST_STEPS = 6;
    private static final int MOST_CHARS = 80;
    private static final int MOST_WITHIN = 12;
    private static final int LETTERS = 26;
    private static final int ILL_BASE = -1;
    private static final int UNKNOWN_BASE = -101;

    // A SUM can hold back its left side, and a way its first LIST: two for each TERM around.
    private static final int MOST_HELD = 2 * MOST_WITHIN;

    // What a token is, and also what a step of a program does. They stay below 32, since the
    // signs ( ) , = + - & are told by their own character codes.
    private static final int END = 0;
    private static final int BAD = 1;
    private static final int NAME = 2;
    private static final int LETTER = 3;
    private static final int NUMBER = 4;
    private static final int ALL = 5;
    private static final int DEPS = 6;
    private static final int USERS = 7;
    private static final int WAY = 8;
    private static final int KIND = 9;
    private static final int TESTS = 10;
    private static final int SAME = 11;
    private static final int LET = 12;
    private static final int IN = 13;

    private final Graph graph;
    private final Text text;
    private final Parser parser;
    private final Runner runner;
    private final Row answered;
    private int looked;
    private int missedName;

    public GraphQuery() {
        graph = new Graph();
        text = new Text();
        parser = new Parser();
        runner = new Runner();
        answered = new Row();
        looked = 0;
        missedName = NONE;
    }

    public int target(int pack, int digit, int kind) {
        return graph.addTarget(pack, digit, kind);
    }

    public boolean needs(int target, int other) {
        return graph.addNeed(target, other);
    }

    public int need(int target, int i) {
        return graph.needAt(target, i);
    }

    public boolean type(char c) {
        return text.append(c);
    }

    public int ask() {
        boolean right = parser.parse(text);
        text.clear();
        if (!right) {
            return ILL_BASE - parser.stopPlace();
        }
        Tape program = parser.program();
        int unknown = firstUnknown(program);
        if (unknown != NONE) {
            missedName = program.valueAt(unknown);
            return UNKNOWN_BASE - program.placeAt(unknown);
        }
        looked = runner.run(program, graph);
        answered.copy(runner.result());
        return answered.size();
    }

    public int answer(int i) {
        return answered.at(i);
    }

    public int nearest() {
        return graph.nearestTo(missedName);
    }

    public int far(int target, int other) {
        return graph.stepsBetween(target, other);
    }

    public int ways(int target, int other, int steps) {
        return graph.waysBetween(target, other, steps);
    }

    public int work() {
        return looked;
    }

    private int firstUnknown(Tape program) {
        for (int i = 0; i < program.size(); i++) {
            if (program.kindAt(i) == NAME && graph.numberOf(program.valueAt(i)) == NONE) {
                return i;
            }
        }
        return NONE;
    }

    private static boolean isJoin(int kind) {
        return kind == '+' || kind == '-' || kind == '&';
    }

    private static boolean isIn(int mask, int t) {
        return t >= 0 && t < MOST_TARGETS && (mask >>> t & 1) != 0;
    }

    /** A row of tokens, or of a program's steps, each with a value and its place in the text. */
    private static final class Tape {
        private final int[] kinds;
        private final int[] values;
        private final int[] places;
        private int count;

        Tape() {
            // One more than the characters, for the token END.
            kinds = new int[MOST_CHARS + 1];
            values = new int[MOST_CHARS + 1];
            places = new int[MOST_CHARS + 1];
            count = 0;
        }

        void clear() {
            count = 0;
        }

        int size() {
            return count;
        }

        void add(int kind, int value, int place) {
            if (count >= kinds.length) {
                return;
            }
            kinds[count] = kind;
            values[count] = value;
            places[count] = place;
            count++;
        }

        int kindAt(int i) {
            return i >= 0 && i < count ? kinds[i] : END;
        }

        int valueAt(int i) {
            return i >= 0 && i < count ? values[i] : 0;
        }

        int placeAt(int i) {
            return i >= 0 && i < count ? places[i] : 0;
        }
    }

    /** The characters typed so far, and how they fall into tokens. */
    private static final class Text {
        private final char[] chars;
        private int length;

        Text() {
            chars = new char[MOST_CHARS];
            length = 0;
        }

        boolean append(char c) {
            if (c < ' ' || c > '~' || length >= chars.length) {
                return false;
            }
            chars[length] = c;
            length++;
            return true;
        }

        void clear() {
            length = 0;
        }

        // A token that can't be one is kept as BAD: the parser finds out whether an earlier one
        // is out of place.
        void split(Tape tokens) {
            tokens.clear();
            for (int at = 0; at < length; at++) {
                char c = charAt(at);
                if (isRowChar(c)) {
                    int start = at;
                    while (at + 1 < length && isRowChar(charAt(at + 1))) {
                        at++;
                    }
                    int kind = rowKind(start, at);
                    tokens.add(kind, rowValue(kind, start, at), start);
                } else if (c != ' ') {
                    tokens.add(isSign(c) ? c : BAD, 0, at);
                }
            }
            tokens.add(END, 0, length);
        }

        private char charAt(int i) {
            return i >= 0 && i < length ? chars[i] : ' ';
        }

        private int rowKind(int start, int last) {
            int size = last - start + 1;
            char head = charAt(start);
            if (size == 1 && isCapital(head)) {
                return LETTER;
            }
            if (size <= 2 && isDigit(head) && isDigit(charAt(last))) {
                return NUMBER;
            }
            if (size == 2 && head >= 'a' && head < 'a' + PACKS && isDigit(charAt(last))) {
                return NAME;
            }
            return wordKind(start, size);
        }

        private int rowValue(int kind, int start, int last) {
            int head = charAt(start);
            int tail = charAt(last);
            switch (kind) {
                case LETTER:
                    return head - 'A';
                case NAME:
                    return (head - 'a') * DIGITS + tail - '0';
                case NUMBER:
                    return start == last ? tail - '0' : (head - '0') * 10 + tail - '0';
                default:
                    return 0;
            }
        }

        private int wordKind(int start, int size) {
            if (spells("all", start, size)) {
                return ALL;
            }
            if (spells("deps", start, size)) {
                return DEPS;
            }
            if (spells("users", start, size)) {
                return USERS;
            }
            if (spells("way", start, size)) {
                return WAY;
            }
            if (spells("kind", start, size)) {
                return KIND;
            }
            if (spells("tests", start, size)) {
                return TESTS;
            }
            if (spells("same", start, size)) {
                return SAME;
            }
            if (spells("let", start, size)) {
                return LET;
            }
            return spells("in", start, size) ? IN : BAD;
        }

        private boolean spells(String word, int start, int size) {
            if (word.length() != size) {
                return false;
            }
            for (int i = 0; i < word.length(); i++) {
                if (charAt(start + i) != word.charAt(i)) {
                    return false;
                }
            }
            return true;
        }

        private static boolean isRowChar(char c) {
            return isDigit(c) || isCapital(c) || c >= 'a' && c <= 'z';
        }

        private static boolean isDigit(char c) {
            return c >= '0' && c <= '9';
        }

        private static boolean isCapital(char c) {
            return c >= 'A' && c <= 'Z';
        }

        private static boolean isSign(char c) {
            return c == '(' || c == ')' || c == ',' || c == '=' || isJoin(c);
        }
    }

    /**
     * Turns a text into a program whose steps stand behind what they work on. Each method that
     * answers false leaves the parser at the token that can't stand there.
     */
    private static final class Parser {
        private final Tape tokens;
        private final Tape program;
        private final int[] slots;
        private int at;
        private int openLets;

        Parser() {
            tokens = new Tape();
            program = new Tape();
            slots = new int[LETTERS];
            at = 0;
            openLets = 0;
        }

        boolean parse(Text text) {
            text.split(tokens);
            program.clear();
            at = 0;
            openLets = 0;
            for (int i = 0; i < slots.length; i++) {
                slots[i] = NONE;
            }
            return sum(0) && tokens.kindAt(at) == END;
        }

        int stopPlace() {
            return tokens.placeAt(at);
        }

        Tape program() {
            return program;
        }

        private boolean sum(int within) {
            if (!term(within)) {
                return false;
            }
            for (int joins = 0; joins < MOST_CHARS && isJoin(tokens.kindAt(at)); joins++) {
                int join = tokens.kindAt(at);
                at++;
                if (!term(within)) {
                    return false;
                }
                emit(join, 0);
            }
            return true;
        }

        private boolean term(int within) {
            if (within >= MOST_WITHIN) {
                return false;
            }
            int kind = tokens.kindAt(at);
            switch (kind) {
                case NAME:
                case ALL:
                    emit(kind, tokens.valueAt(at));
                    at++;
                    return true;
                case LETTER:
                    return letterTerm();
                case '(':
                    at++;
                    return sum(within + 1) && take(')');
                case DEPS:
                case USERS:
                    return roundsTerm(kind, within + 1);
                case TESTS:
                case SAME:
                    return plainTerm(kind, within + 1);
                case WAY:
                    return wayTerm(within + 1);
                case KIND:
                    return kindTerm(within + 1);
                case LET:
                    return letTerm(within + 1);
                default:
                    return false;
            }
        }

        private boolean letterTerm() {
            int slot = slotOf(tokens.valueAt(at));
            if (slot == NONE) {
                return false;
            }
            emit(LETTER, slot);
            at++;
            return true;
        }

        private boolean roundsTerm(int kind, int within) {
            at++;
            if (!take('(') || !sum(within)) {
                return false;
            }
            // Each round but the last brings a TARGET, so that this many are as good as no bound.
            int rounds = MOST_TARGETS;
            if (take(',')) {
                rounds = tokens.valueAt(at);
                if (!take(NUMBER)) {
                    return false;
                }
            }
            emit(kind, rounds);
            return take(')');
        }

        private boolean plainTerm(int kind, int within) {
            at++;
            if (!take('(') || !sum(within)) {
                return false;
            }
            emit(kind, 0);
            return take(')');
        }

        private boolean wayTerm(int within) {
            at++;
            if (!take('(') || !sum(within) || !take(',') || !sum(within)) {
                return false;
            }
            emit(WAY, 0);
            return take(')');
        }

        private boolean kindTerm(int within) {
            at++;
            if (!take('(')) {
                return false;
            }
            int kind = tokens.valueAt(at);
            if (!take(NUMBER) || !take(',') || !sum(within)) {
                return false;
            }
            emit(KIND, kind);
            return take(')');
        }

        private boolean letTerm(int within) {
            at++;
            int letter = tokens.valueAt(at);
            if (!take(LETTER) || !take('=') || !sum(within) || !take(IN)) {
                return false;
            }
            int outer = slotOf(letter);
            emit(LET, openLets);
            setSlot(letter, openLets);
            openLets++;
            boolean right = sum(within);
            openLets--;
            setSlot(letter, outer);
            return right;
        }

        private int slotOf(int letter) {
            return letter >= 0 && letter < slots.length ? slots[letter] : NONE;
        }

        private void setSlot(int letter, int slot) {
            if (letter >= 0 && letter < slots.length) {
                slots[letter] = slot;
            }
        }

        private boolean take(int kind) {
            if (tokens.kindAt(at) != kind) {
                return false;
            }
            at++;
            return true;
        }

        private void emit(int kind, int value) {
            program.add(kind, value, tokens.placeAt(at));
        }
    }

    /** A LIST: TARGETS in order, each once. */
    private static final class Row {
        private final int[] items;
        private int count;
        private int mask;

        Row() {
            items = new int[MOST_TARGETS];
            count = 0;
            mask = 0;
        }

        void clear() {
            count = 0;
            mask = 0;
        }

        int size() {
            return count;
        }

        int mask() {
            return mask;
        }

        int at(int i) {
            return i >= 0 && i < count ? items[i] : NONE;
        }

        boolean has(int t) {
            return isIn(mask, t);
        }

        void add(int t) {
            if (t < 0 || t >= MOST_TARGETS || isIn(mask, t) || count >= items.length) {
                return;
            }
            items[count] = t;
            count++;
            mask |= 1 << t;
        }

        void addAll(Row other) {
            for (int i = 0; i < other.size(); i++) {
                add(other.at(i));
            }
        }

        void addByNumbers(int wanted) {
            for (int t = 0; t < MOST_TARGETS; t++) {
                if (isIn(wanted, t)) {
                    add(t);
                }
            }
        }

        void copy(Row other) {
            clear();
            addAll(other);
        }

        void keep(int wanted) {
            int before = count;
            clear();
            for (int i = 0; i < before && i < items.length; i++) {
                if (isIn(wanted, items[i])) {
                    add(items[i]);
                }
            }
        }

        void reverse() {
            int low = 0;
            int high = count - 1;
            while (low >= 0 && low < high && high < items.length) {
                int moved = items[low];
                items[low] = items[high];
                items[high] = moved;
                low++;
                high--;
            }
        }
    }

    /** The TARGETS and their NEEDS, and what can be asked of them. */
    private static final class Graph {
        private final int[] names;
        private final int[] kinds;
        private final int[] numbers;
        private final int[] needRows;
        private final int[] needCounts;
        private final int[] needMasks;
        private final int[] userMasks;
        private final int[] cameBy;
        private int count;

        Graph() {
            names = new int[MOST_TARGETS];
            kinds = new int[MOST_TARGETS];
            numbers = new int[PACKS * DIGITS];
            needRows = new int[MOST_TARGETS * MOST_NEEDS];
            needCounts = new int[MOST_TARGETS];
            needMasks = new int[MOST_TARGETS];
            userMasks = new int[MOST_TARGETS];
            cameBy = new int[MOST_TARGETS];
            count = 0;
            for (int i = 0; i < numbers.length; i++) {
                numbers[i] = NONE;
            }
        }

        int addTarget(int pack, int digit, int kind) {
            if (count >= MOST_TARGETS || !below(pack, PACKS) || !below(digit, DIGITS)
                    || !below(kind, KINDS)) {
                return NONE;
            }
            int name = pack * DIGITS + digit;
            if (numbers[name] != NONE) {
                return NONE;
            }
            int t = count;
            numbers[name] = t;
            names[t] = name;
            kinds[t] = kind;
            count++;
            return t;
        }

        boolean addNeed(int t, int other) {
            if (!below(t, count) || !below(other, count) || isIn(needMasks[t], other)
                    || !below(needCounts[t], MOST_NEEDS)) {
                return false;
            }
            needRows[t * MOST_NEEDS + needCounts[t]] = other;
            needCounts[t]++;
            needMasks[t] |= 1 << other;
            userMasks[other] |= 1 << t;
            return true;
        }

        int needAt(int t, int i) {
            if (!below(t, count) || !below(i, MOST_NEEDS) || i >= needCounts[t]) {
                return NONE;
            }
            return needRows[t * MOST_NEEDS + i];
        }

        int numberOf(int name) {
            return below(name, numbers.length) ? numbers[name] : NONE;
        }

        int nearestTo(int name) {
            if (!below(name, numbers.length)) {
                return NONE;
            }
            int pack = name / DIGITS;
            int digit = name % DIGITS;
            int found = closest(pack * DIGITS, 1, DIGITS, digit);
            return found != NONE ? found : closest(digit, DIGITS, PACKS, pack);
        }

        // Goes upwards and takes a later one only if it is nearer: of like ones the lesser stays.
        private int closest(int first, int stride, int places, int wanted) {
            int found = NONE;
            int gap = places;
            for (int i = 0; i < places; i++) {
                int t = numberOf(first + i * stride);
                if (t != NONE && Math.abs(i - wanted) < gap) {
                    found = t;
                    gap = Math.abs(i - wanted);
                }
            }
            return found;
        }

        int stepsBetween(int t, int other) {
            if (!below(t, count) || !below(other, count)) {
                return NONE;
            }
            int reached = 1 << t;
            for (int steps = 0; steps < MOST_TARGETS; steps++) {
                if (isIn(reached, other)) {
                    return steps;
                }
                reached |= joined(needMasks, reached);
            }
            return NONE;
        }

        private int joined(int[] masks, int wanted) {
            int all = 0;
            for (int t = 0; t < count && t < masks.length; t++) {
                if (isIn(wanted, t)) {
                    all |= masks[t];
                }
            }
            return all;
        }

        int waysBetween(int t, int other, int steps) {
            if (!below(t, count) || !below(other, count) || steps < 0 || steps > MOST_STEPS) {
                return NONE;
            }
            return t == other ? 1 : waysOn(t, other, steps, 1 << t | 1 << other);
        }

        // The last two steps are counted by masks: walking them would cost up to 64 times more.
        private int waysOn(int t, int goal, int steps, int passed) {
            if (steps <= 0 || !below(t, count) || !below(goal, count)) {
                return 0;
            }
            int sum = isIn(needMasks[t], goal) ? 1 : 0;
            if (steps == 1) {
                return sum;
            }
            if (steps == 2) {
                return sum + Integer.bitCount(needMasks[t] & ~passed & userMasks[goal]);
            }
            for (int i = 0; i < needCounts[t] && i < MOST_NEEDS; i++) {
                int next = needAt(t, i);
                if (!isIn(passed, next)) {
                    sum += waysOn(next, goal, steps - 1, passed | 1 << next);
                }
            }
            return sum;
        }

        void listAll(Row list) {
            for (int t = 0; t < count; t++) {
                list.add(t);
            }
        }

        void growByNeeds(Row list, int rounds) {
            int from = 0;
            for (int round = 0; round < rounds && from < list.size(); round++) {
                int to = list.size();
                for (int i = from; i < to; i++) {
                    addNeedsOf(list.at(i), list);
                }
                from = to;
            }
        }

        private void addNeedsOf(int t, Row list) {
            for (int i = 0; i < MOST_NEEDS; i++) {
                list.add(needAt(t, i));
            }
        }

        void growByUsers(Row list, int rounds) {
            int from = 0;
            for (int round = 0; round < rounds && from < list.size(); round++) {
                int to = list.size();
                for (int i = from; i < to; i++) {
                    list.addByNumbers(usersOf(list.at(i)));
                }
                from = to;
            }
        }

        private int usersOf(int t) {
            return below(t, count) ? userMasks[t] : 0;
        }

        /** Turns the first LIST into the shortest way from it to the goals. */
        void findWay(Row list, Row goals) {
            for (int t = 0; t < cameBy.length; t++) {
                cameBy[t] = NONE;
            }
            int end = NONE;
            for (int i = 0; i < MOST_TARGETS && i < list.size() && end == NONE; i++) {
                int t = list.at(i);
                if (goals.has(t)) {
                    end = t;
                } else {
                    noteNeedsOf(t, list);
                }
            }
            list.clear();
            int t = end;
            for (int i = 0; i < MOST_TARGETS && below(t, cameBy.length); i++) {
                list.add(t);
                t = cameBy[t];
            }
            list.reverse();
        }

        private void noteNeedsOf(int t, Row list) {
            for (int i = 0; i < MOST_NEEDS; i++) {
                int next = needAt(t, i);
                if (below(next, cameBy.length) && !list.has(next)) {
                    cameBy[next] = t;
                    list.add(next);
                }
            }
        }

        void keepKind(Row list, int kind) {
            list.keep(ofKind(kind));
        }

        void findTests(Row list) {
            int reached = list.mask();
            for (int round = 0; round < MOST_TARGETS; round++) {
                reached |= joined(userMasks, reached);
            }
            list.clear();
            list.addByNumbers(reached & ofKind(TEST_KIND));
        }

        private int ofKind(int kind) {
            int found = 0;
            for (int t = 0; t < count && t < kinds.length; t++) {
                if (kinds[t] == kind) {
                    found |= 1 << t;
                }
            }
            return found;
        }

        void findSame(Row list) {
            int packs = 0;
            for (int i = 0; i < list.size(); i++) {
                packs |= 1 << packOf(list.at(i));
            }
            list.clear();
            for (int t = 0; t < count; t++) {
                if ((packs >>> packOf(t) & 1) != 0) {
                    list.add(t);
                }
            }
        }

        private int packOf(int t) {
            return below(t, count) ? names[t] / DIGITS : PACKS;
        }

        private static boolean below(int value, int bound) {
            return value >= 0 && value < bound;
        }
    }

    /** Runs a program on a stack of LISTS, made once and used again by every ask. */
    private static final class Runner {
        private final Row[] stack;
        private final Row[] bound;
        private int top;

        Runner() {
            stack = new Row[MOST_HELD];
            for (int i = 0; i < stack.length; i++) {
                stack[i] = new Row();
            }
            bound = new Row[MOST_WITHIN];
            for (int i = 0; i < bound.length; i++) {
                bound[i] = new Row();
            }
            top = 0;
        }

        /** Answers how many TARGETS the LISTS have in all that the program made. */
        int run(Tape program, Graph graph) {
            top = 0;
            int looked = 0;
            for (int i = 0; i < program.size(); i++) {
                int kind = program.kindAt(i);
                int value = program.valueAt(i);
                if (kind == LET) {
                    rowAt(bound, value).copy(pop());
                    continue;
                }
                if (isJoin(kind) || kind == WAY) {
                    makeOfTwo(kind, graph);
                } else {
                    make(kind, value, graph);
                }
                looked += result().size();
            }
            return looked;
        }

        Row result() {
            return rowAt(stack, top - 1);
        }

        private void make(int kind, int value, Graph graph) {
            switch (kind) {
                case NAME:
                    push().add(graph.numberOf(value));
                    break;
                case LETTER:
                    push().copy(rowAt(bound, value));
                    break;
                case ALL:
                    graph.listAll(push());
                    break;
                case DEPS:
                    graph.growByNeeds(result(), value);
                    break;
                case USERS:
                    graph.growByUsers(result(), value);
                    break;
                case KIND:
                    graph.keepKind(result(), value);
                    break;
                case TESTS:
                    graph.findTests(result());
                    break;
                case SAME:
                    graph.findSame(result());
                    break;
                default:
                    break;
            }
        }

        private void makeOfTwo(int kind, Graph graph) {
            Row right = pop();
            Row left = result();
            switch (kind) {
                case '+':
                    left.addAll(right);
                    break;
                case '-':
                    left.keep(~right.mask());
                    break;
                case '&':
                    left.keep(right.mask());
                    break;
                case WAY:
                    graph.findWay(left, right);
                    break;
                default:
                    break;
            }
        }

        private Row push() {
            Row row = rowAt(stack, top);
            top++;
            row.clear();
            return row;
        }

        private Row pop() {
            top--;
            return rowAt(stack, top);
        }

        // The parser's limits keep every index in bounds; it is held there all the same.
        private static Row rowAt(Row[] rows, int i) {
            return rows[Math.max(0, Math.min(i, rows.length - 1))];
        }
    }
}
