import java.util.Set;

/**
 * The edges that "Terms" names for a text: its characters and tokens, what can stand where, how
 * deep TERMS may be within others, where a LETTER may stand, which NAME is UNKNOWN. Each method
 * is about one sentence, or one part of it; each text is asked of an object of its own.
 */
public final class TextEdgesTest {
    private static final String TERMS = " a1 all ( deps users way kind tests same let ";
    private static final String JOINS = " + - & ";
    private static final String TOKENS = TERMS + JOINS + " A B 7 ) , = in # 100 a12 xx alls ";

    private final Check check = new Check();

    public static void main(String[] args) {
        TextEdgesTest test = new TextEdgesTest();
        test.length();
        test.everyCharacter();
        test.blanks();
        test.names();
        test.besideNames();
        test.letters();
        test.numbers();
        test.words();
        test.sums();
        test.whatMayFollow();
        test.whatMayFollowInLet();
        test.firstWrongToken();
        test.rowsThatAreNone();
        test.endsTooEarly();
        test.brackets();
        test.withinEachForm();
        test.firstTokenWithinTwelve();
        test.besideIsNotWithin();
        test.letterOutside();
        test.letterBehindIn();
        test.letterInnermost();
        test.letterEveryOne();
        test.unknownWhenRight();
        test.unknownFirst();
        test.unknownEdges();
        test.check.end("TextEdgesTest");
    }

    private void right(String text, int... due) {
        check.list(Check.sample(), text, due);
    }

    private void ill(String text, int place) {
        check.ill(Check.sample(), text, place);
    }

    private void unknown(String text, int place) {
        check.unknown(Check.sample(), text, place);
    }

    private static String open(int count) {
        return "(".repeat(count);
    }

    private static String close(int count) {
        return ")".repeat(count);
    }

    private void length() {
        check.sentence("A QUERY is a text of at most 80 characters");
        right(" ".repeat(77) + "a1", 0);
        right(" ".repeat(78) + "a1", 0);
        right("a1" + " ".repeat(78), 0);
        right("a1+".repeat(26) + "c3", 0, 3);
        GraphQuery q = Check.sample();
        for (char c : (" ".repeat(78) + "a1").toCharArray()) {
            check.same("type of one of 80", q.type(c), true);
        }
        check.same("type of the 81st", q.type('+'), false);
        check.same("type of the 82nd", q.type(' '), false);
        check.same("ask of the 80", q.ask(), 1);
    }

    // Each of the 95, where a join can stand and where a TERM can stand.
    private void everyCharacter() {
        check.sentence("TOKENS: .. and ( ) , = + - & .");
        for (char c = 32; c <= 126; c++) {
            if ("+-&".indexOf(c) >= 0) {
                check.same("ask with " + c, Check.ask(Check.sample(), "a1 " + c + " a2") >= 0, true);
            } else {
                ill("a1 " + c + " a2", c == ' ' ? 5 : 3);
            }
            ill("a1+" + c, c == ' ' || c == '(' ? 4 : 3);
        }
    }

    private static boolean isRowCharacter(char c) {
        return c < 128 && Character.isLetterOrDigit(c);
    }

    private void blanks() {
        check.sentence("TOKENS, with any blanks between them");
        right("way(a1,d4)+c8", 0, 2, 4, 7);
        right(" way ( a1 , d4 ) + c8 ", 0, 2, 4, 7);
        right("way" + " ".repeat(60) + "(a1,d4)", 0, 2, 4);
        right("let   A  =  a1   in   A", 0);
        right("let A=(a1)in(A)", 0);
        check.sentence("none within one");
        ill("a 1", 0);
        ill("al l", 0);
        ill("de ps(a1)", 0);
        ill("deps(a1,1 2)", 10);
        ill("let A=a1 i n A", 9);
    }

    private void names() {
        check.sentence("a NAME (a letter a to f and a digit ..)");
        unknown("a0", 0);
        unknown("f9", 0);
        unknown("a9", 0);
        unknown("f0", 0);
        ill("g0", 0);
        ill("`0", 0);
        ill("A0", 0);
        ill("F9", 0);
        ill("z9", 0);
        ill("a", 0);
        ill("f", 0);
        ill("a/", 0);
        ill("a:", 0);
        ill("0a", 0);
        ill("9f", 0);
    }

    private void besideNames() {
        check.sentence("a NAME .. not behind or before a letter or digit");
        for (char c = 32; c <= 126; c++) {
            if (isRowCharacter(c)) {
                ill("c3+a1" + c, 3);
                ill("c3+" + c + "a1", 3);
            }
        }
        right("c3+a1", 3, 0);
        ill("a1_", 2);
        ill("_a1", 0);
        ill("a1@", 2);
        ill("a1[", 2);
        ill("a1`", 2);
        ill("a1{", 2);
        ill("a1/", 2);
        ill("a1:", 2);
    }

    private void letters() {
        check.sentence("a LETTER A to Z by itself");
        right("let A=a1 in A", 0);
        right("let Z=a1 in Z", 0);
        ill("let @=a1 in a1", 4);
        ill("let [=a1 in a1", 4);
        ill("let a=a1 in a1", 4);
        ill("let AA=a1 in a1", 4);
        ill("let A1=a1 in a1", 4);
        ill("let 1A=a1 in a1", 4);
        ill("let Aa=a1 in a1", 4);
        ill("let 1=a1 in a1", 4);
        ill("let A=a1 in AA", 12);
        ill("let A=a1 in A1", 12);
        ill("let A=a1 in 1A", 12);
        ill("let A=a1 in Ain", 12);
    }

    private void numbers() {
        check.sentence("a NUMBER of one or two digits");
        ill("deps(a1,)", 8);
        right("deps(a1,0)", 0);
        right("deps(a1,9)", 0, 2, 1, 3, 4);
        right("deps(a1,00)", 0);
        right("deps(a1,01)", 0, 2, 1);
        right("deps(a1,10)", 0, 2, 1, 3, 4);
        right("deps(a1,99)", 0, 2, 1, 3, 4);
        check.sentence("also a NUMBER of three digits, at its first one");
        ill("deps(a1,000)", 8);
        ill("deps(a1,100)", 8);
        ill("users(a1, 999)", 10);
        ill("deps(a1,1000)", 8);
        ill("kind(003,a1)", 5);
        ill("deps(a1," + "1".repeat(72), 8);
        check.sentence("NUMBER: digits alone");
        ill("deps(a1,1a)", 8);
        ill("deps(a1,a)", 8);
        ill("deps(a1,-1)", 8);
        ill("deps(a1,+1)", 8);
        ill("deps(a1,/)", 8);
        ill("deps(a1,:)", 8);
        ill("deps(a1,1:)", 9);
        ill("deps(a1,1/)", 9);
        ill("kind(,a1)", 5);
        right("kind(0,a1)", 0);
        right("kind(00,a1)", 0);
    }

    private void words() {
        check.sentence("a WORD: all, deps, users, way, kind, tests, same, let, in");
        String[] whole = {"all", "deps(a1)", "users(a1)", "way(a1,a1)", "kind(0,a1)", "tests(a1)",
            "same(a1)", "let A=a1 in a1"};
        for (String text : whole) {
            String word = text.replaceFirst("[^a-z].*", "");
            String rest = text.substring(word.length());
            check.same("ask of '" + text + "'", Check.ask(Check.sample(), text) >= 0, true);
            ill(word.substring(0, word.length() - 1) + rest, 0);
            ill(word.substring(1) + rest, 0);
            ill(word + "s" + rest, 0);
            ill("s" + word + rest, 0);
            ill(word + "1" + rest, 0);
            ill(word.toUpperCase() + rest, 0);
            ill(word.substring(0, 1).toUpperCase() + word.substring(1) + rest, 0);
            ill(word.substring(0, word.length() - 1) + "x" + rest, 0);
        }
        for (String none : new String[] {"i", "n", "inn", "In", "IN", "im", "on"}) {
            ill("let A=a1 " + none + " a1", 9);
        }
    }

    private void sums() {
        check.sentence("SUM: TERM { (+ or - or &) TERM }");
        ill("", 0);
        right("a1", 0);
        right("a1+c3", 0, 3);
        right("a1-c3", 0);
        right("a1&c3");
        right("a1+c3+d4", 0, 3, 4);
        right("a1+".repeat(25) + "c3-c3", 0);
        for (String join : JOINS.trim().split(" ")) {
            ill(join, 0);
            ill(join + "a1", 0);
            ill("a1" + join, 3);
            ill("a1" + join + "+a2", 3);
            ill("a1" + join + ")", 3);
            ill("a1" + join + "a2" + join, 6);
            ill("a1" + join + "a2 a1", 6);
        }
        ill("a1 c3", 3);
    }

    private void whatMayFollow() {
        check.sentence("TERM: NAME, LETTER, all, ( SUM ), ..");
        follows("", TERMS, false);
        follows("a1", JOINS, true);
        follows("all", JOINS, true);
        follows("a1 +", TERMS, false);
        follows("a1 -", TERMS, false);
        follows("a1 &", TERMS, false);
        follows("(", TERMS, false);
        follows("( a1", JOINS + ")", false);
        follows("( a1 )", JOINS, true);
        follows("( ( a1 )", JOINS + ")", false);
        for (String word : new String[] {"deps", "users"}) {
            check.sentence(word + " ( SUM [ , NUMBER ] )");
            follows(word, "(", false);
            follows(word + " (", TERMS, false);
            follows(word + " ( a1", JOINS + ") ,", false);
            follows(word + " ( a1 )", JOINS, true);
            follows(word + " ( a1 ,", "7", false);
            follows(word + " ( a1 , 7", ")", false);
            follows(word + " ( a1 , 7 )", JOINS, true);
        }
        for (String word : new String[] {"tests", "same"}) {
            check.sentence(word + " ( SUM )");
            follows(word, "(", false);
            follows(word + " (", TERMS, false);
            follows(word + " ( a1", JOINS + ")", false);
            follows(word + " ( a1 )", JOINS, true);
        }
        check.sentence("way ( SUM , SUM )");
        follows("way", "(", false);
        follows("way (", TERMS, false);
        follows("way ( a1", JOINS + ",", false);
        follows("way ( a1 ,", TERMS, false);
        follows("way ( a1 , a1", JOINS + ")", false);
        follows("way ( a1 , a1 )", JOINS, true);
        check.sentence("kind ( NUMBER , SUM )");
        follows("kind", "(", false);
        follows("kind (", "7", false);
        follows("kind ( 7", ",", false);
        follows("kind ( 7 ,", TERMS, false);
        follows("kind ( 7 , a1", JOINS + ")", false);
        follows("kind ( 7 , a1 )", JOINS, true);
    }

    private void whatMayFollowInLet() {
        check.sentence("let LETTER = SUM in SUM");
        follows("let", "A B", false);
        follows("let A", "=", false);
        follows("let A =", TERMS, false);
        follows("let A = a1", JOINS + "in", false);
        follows("let A = a1 in", TERMS + "A", false);
        follows("let A = a1 in A", JOINS, true);
        follows("let A = a1 in A +", TERMS + "A", false);
        follows("let A = a1 in deps (", TERMS + "A", false);
        follows("let A = a1 in let B =", TERMS + "A", false);
        follows("let A = a1 in let B = a1 in", TERMS + "A B", false);
        follows("let A = let B = a1 in", TERMS + "B", false);
        follows("let A = let B = a1 in B in", TERMS + "A", false);
        follows("( let A = a1 in A", JOINS + ")", false);
        follows("( let A = a1 in A ) +", TERMS, false);
        follows("way ( let A = a1 in A", JOINS + ",", false);
        follows("way ( let A = a1 in A ,", TERMS, false);
    }

    /** Behind the head, each token but those that may follow is ILL; so is the end, if not whole. */
    private void follows(String head, String may, boolean whole) {
        int place = head.isEmpty() ? 0 : head.length() + 1;
        Set<String> allowed = Set.of(may.trim().split(" +"));
        for (String token : TOKENS.trim().split(" +")) {
            String text = (head + " " + token).trim();
            int got = Check.ask(Check.sample(), text);
            if (allowed.contains(token)) {
                boolean stands = got >= 0 || got == -1 - text.length();
                check.same("'" + token + "' may stand at the end of '" + text + "'", stands, true);
            } else {
                check.same("ask of '" + text + "'", got, -1 - place);
            }
        }
        int got = Check.ask(Check.sample(), head);
        check.same("ask of '" + head + "'", whole ? got >= 0 : got == -1 - head.length(), true);
    }

    private void firstWrongToken() {
        check.sentence("ILL at the first character of the first token that can't stand there");
        ill("a1 ) #", 3);
        ill("a1 # )", 3);
        ill("# a1 )", 0);
        ill("  a1  a2  100", 6);
        ill("A+#", 0);
        ill("a1+users tests #", 9);
        ill("deps(A,100)", 5);
        ill("deps(a1,100", 8);
        ill("f9 100", 3);
        ill(")", 0);
        ill(" )", 1);
        ill(" ".repeat(78) + ")", 78);
        ill(" ".repeat(79) + ")", 79);
        ill(" ".repeat(76) + "alls", 76);
    }

    private void rowsThatAreNone() {
        check.sentence("a row of letters and digits that is none, at its first one");
        ill("a1+a1a2", 3);
        ill("a1+allall", 3);
        ill("a1+12a", 3);
        ill("a1+x", 3);
        ill("a1+Xy", 3);
        ill("a1+x y", 3);
        ill("a1+letA=a1 in A", 3);
        ill("let A=a1in A", 6);
        ill("let A=a1 inA", 9);
        ill("x".repeat(80), 0);
        ill(" " + "7".repeat(79), 1);
    }

    private void endsTooEarly() {
        check.sentence("at the text's length if it ends too early");
        ill("", 0);
        ill(" ", 1);
        ill(" ".repeat(79), 79);
        ill(" ".repeat(80), 80);
        ill("a1+", 3);
        ill("a1+  ", 5);
        ill("deps(a1", 7);
        ill("a1+".repeat(26) + "(", 79);
        ill("a1+".repeat(26) + "((", 80);
        ill("a1+".repeat(26) + " +", 79);
        ill("(" + " ".repeat(77) + "a1", 80);
        ill("(" + " ".repeat(76) + "a1", 79);
    }

    private void brackets() {
        check.sentence("A TERM within twelve others is ILL at its first token");
        for (int deep = 0; deep <= 11; deep++) {
            right(open(deep) + "a1" + close(deep), 0);
            ill(open(deep) + "a1" + close(deep + 1), deep * 2 + 2);
        }
        for (int deep = 12; deep <= 26; deep++) {
            ill(open(deep) + "a1" + close(deep), 12);
        }
        ill(open(80), 12);
        right(open(11) + "c3+a1" + close(11), 3, 0);
        right(open(10) + "c3+(a1)" + close(10), 3, 0);
        ill(open(11) + "c3+(a1)" + close(11), 15);
    }

    // Ten or eleven brackets and one form, outermost and innermost.
    private void withinEachForm() {
        String[][] forms = {{"(", ")"}, {"deps(", ",0)"}, {"users(", ",0)"}, {"way(", ",a1)"},
            {"way(a1,", ")"}, {"kind(0,", ")"}, {"let X=", " in X"}, {"let X=a1 in ", ""}};
        for (String[] form : forms) {
            check.sentence("A TERM within twelve others: " + form[0]);
            right(form[0] + open(10) + "a1" + close(10) + form[1], 0);
            right(open(10) + form[0] + "a1" + form[1] + close(10), 0);
            ill(form[0] + open(11) + "a1" + close(11) + form[1], form[0].length() + 11);
            int firstName = (form[0] + "a1").indexOf("a1");
            ill(open(11) + form[0] + "a1" + form[1] + close(11), 11 + firstName);
        }
        check.sentence("A TERM within twelve others: tests, same");
        right("tests(" + open(10) + "b9" + close(11), 5, 6);
        right(open(10) + "tests(b9" + close(11), 5, 6);
        ill("tests(" + open(11) + "b9" + close(12), 17);
        ill(open(11) + "tests(b9" + close(12), 17);
        right("same(" + open(10) + "a2" + close(11), 0, 1);
        right(open(10) + "same(a2" + close(11), 0, 1);
        ill("same(" + open(11) + "a2" + close(12), 16);
        ill(open(11) + "same(a2" + close(12), 16);
        check.sentence("A TERM within twelve others: one form eleven and twelve times");
        right("deps(".repeat(11) + "d4" + close(11), 4);
        ill("deps(".repeat(12) + "d4" + close(12), 60);
        right("users(".repeat(11) + "e0" + close(11), 6);
        ill("users(".repeat(12) + "e0", 72);
        right("tests(".repeat(11) + "e0" + close(11), 6);
        ill("tests(".repeat(12) + "e0", 72);
        right("same(".repeat(11) + "d4" + close(11), 4);
        ill("same(".repeat(12) + "d4" + close(12), 60);
    }

    private void firstTokenWithinTwelve() {
        check.sentence("ILL at its first token, whatever it is");
        for (String token : TOKENS.trim().split(" +")) {
            ill(open(12) + token, 12);
            ill(open(12) + "  " + token, 14);
        }
        ill("let A=a1 in " + open(11) + "A" + close(11), 23);
        ill(open(12) + "deps(a1)" + close(12), 12);
        ill(open(12) + "f9", 12);
        right(open(11) + "all" + close(11), 0, 1, 2, 3, 4, 5, 6, 7);
        right("let A=a1 in " + open(10) + "A" + close(10), 0);
    }

    private void besideIsNotWithin() {
        check.sentence("A TERM within twelve others: those beside it don't count");
        String eleven = open(11) + "a1" + close(11);
        right(eleven + "+" + eleven + "-" + eleven);
        ill(eleven + "+" + open(12) + "a1", 37);
        right("a1+".repeat(26) + "a1", 0);
        right("way((a1),(d4))+((c8))", 0, 2, 4, 7);
        right("way(" + open(10) + "a1" + close(10) + "," + open(10) + "d4" + close(11), 0, 2, 4);
    }

    private void letterOutside() {
        check.sentence("A LETTER may stand only within the SUM behind in of a let of it: else ILL");
        ill("A", 0);
        ill("a1+A", 3);
        ill("let A=A in a1", 6);
        ill("let A=deps(a1+A) in a1", 14);
        ill("let A=a1 in B", 12);
        ill("let B=a1 in A", 12);
        ill("(let A=a1 in A)+A", 16);
        ill("A+(let A=a1 in A)", 0);
        ill("way(let A=a1 in A,A)", 18);
        ill("deps(let A=a1 in A)&A", 20);
        ill("let A=let B=a1 in B in B", 23);
        ill("let A=(let A=a1 in A)+A in A", 22);
        GraphQuery q = Check.sample();
        check.list(q, "let A=a1 in A", 0);
        check.ill(q, "A", 0);
        check.ill(q, "let A=a1 in A+", 14);
        check.ill(q, "A", 0);
    }

    private void letterBehindIn() {
        check.sentence("A LETTER within the SUM behind in of a let of it");
        right("let A=a1 in a2+A", 1, 0);
        right("let A=a1 in a2+deps((A),1)", 1, 0, 2);
        right("let A=a1 in kind(0,users(A,0))", 0);
        right("let A=a1 in way(A,d4)+way(a2,A)", 0, 2, 4, 1, 3);
        right("let A=a1 in tests(A)+same(A)", 5, 6, 0, 1);
        right("let A=a1 in let B=A in B+A", 0);
        right("let A=a1 in (let B=a2 in B+A)+A", 1, 0);
        right("deps(let A=a1 in A,1)", 0, 2, 1);
        right("c3+let A=a1 in A-c3", 3, 0);
    }

    private void letterInnermost() {
        check.sentence("the innermost one counts");
        right("let A=a1 in let A=a2 in A", 1);
        right("let A=a1 in let A=A+a2 in A", 0, 1);
        right("let A=a1 in (let A=a2 in A)+A", 1, 0);
        right("let A=a1 in A+(let A=a2 in A)+A", 0, 1);
        right("let A=a1 in let A=a2 in let A=c3 in A", 3);
        right("let A=a1 in let B=a2 in let A=c3 in A+B", 3, 1);
        right("let A=a1 in (let B=a2 in let A=c3 in A)+A", 3, 0);
        right("let A=a1 in let B=(let A=a2 in A) in A+B", 0, 1);
    }

    private void letterEveryOne() {
        check.sentence("a LETTER A to Z: each its own");
        for (char c = 'A'; c <= 'Z'; c++) {
            right("let " + c + "=c8 in " + c, 7);
            for (char other = 'A'; other <= 'Z'; other++) {
                if (other != c) {
                    ill("let " + c + "=c8 in " + other, 12);
                }
            }
        }
        right("let A=a1 in let Z=a2 in A+Z", 0, 1);
        right("let A=a1 in let Z=a2 in Z+A", 1, 0);
    }

    private void unknownWhenRight() {
        check.sentence("UNKNOWN: looked at when the text is right as such");
        unknown("f9", 0);
        ill("f9+", 3);
        ill("f9+A", 3);
        ill("f9)", 2);
        ill("f9 f8", 3);
        ill("f9+100", 3);
        ill("deps(f9", 7);
        ill("f9+" + open(12) + "a1" + close(12), 15);
        ill("let A=f9 in B", 12);
        unknown("deps(f9)", 5);
        unknown("f9+" + open(11) + "a1" + close(11), 0);
        unknown("let A=f9 in A", 6);
    }

    private void unknownFirst() {
        check.sentence("the first one counts");
        unknown("f9+f8", 0);
        unknown("a1+f9+f8", 3);
        unknown("a1-(a2+(f8))&f9", 8);
        unknown("way(f9,f8)", 4);
        unknown("way(a1,f8)+f9", 7);
        unknown("let A=f9 in f8", 6);
        unknown("let A=a1 in f8+f9", 12);
        unknown("kind(3,f9)", 7);
        GraphQuery q = Check.sample();
        check.unknown(q, "b8+a3", 0);
        check.same("nearest", q.nearest(), 5);
        check.unknown(q, "a3+b8", 0);
        check.same("nearest", q.nearest(), 1);
    }

    private void unknownEdges() {
        check.sentence("A NAME that no TARGET has is UNKNOWN");
        unknown("a0", 0);
        right("a1", 0);
        right("a2", 1);
        unknown("a3", 0);
        unknown("b1", 0);
        unknown("b3", 0);
        unknown("let A=f9 in a1", 6);
        unknown("a1-a1&f9", 6);
        unknown("deps(f9,0)", 5);
        GraphQuery none = new GraphQuery();
        check.unknown(none, "a0", 0);
        check.list(none, "all");
        none.target(0, 0, 0);
        check.list(none, "a0", 0);
        check.unknown(none, "a1", 0);
        check.unknown(none, "b0", 0);
    }
}
