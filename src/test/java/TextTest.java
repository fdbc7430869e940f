/** Promise 5 (type) and, of promise 6, where a text is ILL. */
public final class TextTest {
    public static void main(String[] args) {
        Check check = new Check();
        characters(check);
        eighty(check);
        tokens(check);
        grammar(check);
        unfinished(check);
        letters(check);
        depth(check);
        illLeavesAnswer(check);
        check.end("TextTest");
    }

    private static void characters(Check check) {
        GraphQuery q = new GraphQuery();
        q.target(0, 1, 0);
        check.same("type 31", q.type((char) 31), false);
        check.same("type 127", q.type((char) 127), false);
        check.same("type 0", q.type((char) 0), false);
        check.same("type 65535", q.type((char) 65535), false);
        check.same("type 256 + 'a'", q.type((char) (256 + 'a')), false);
        check.list(q, "a1", 0);
        check.same("type 32", q.type((char) 32), true);
        check.same("type 126", q.type((char) 126), true);
        check.ill(q, "", 1);
        for (char c = 32; c <= 126; c++) {
            GraphQuery fresh = new GraphQuery();
            check.same("type " + (int) c, fresh.type(c), true);
            check.ill(fresh, "", c == ' ' || c == '(' ? 1 : 0);
        }
    }

    private static void eighty(Check check) {
        GraphQuery q = new GraphQuery();
        q.target(0, 1, 0);
        for (int i = 0; i < 78; i++) {
            check.same("type blank " + i, q.type(' '), true);
        }
        check.same("79th", q.type('a'), true);
        check.same("80th", q.type('1'), true);
        check.same("81st", q.type('2'), false);
        check.list(q, "", 0);
        check.ill(q, "a1+".repeat(26) + "  ", 80);
        check.ill(q, " ".repeat(79) + ")", 79);
        check.list(q, "a1", 0);
    }

    private static void tokens(Check check) {
        GraphQuery q = Check.sample();
        check.ill(q, "a12", 0);
        check.ill(q, "1a1", 0);
        check.ill(q, "a1a2", 0);
        check.ill(q, "xa1", 0);
        check.ill(q, "a1+g1", 3);
        check.ill(q, "A1", 0);
        check.ill(q, "AB", 0);
        for (char c : new char[] {'a', 'z', 'A', 'Z', '0', '9'}) {
            check.ill(q, "a1" + c, 0);
            check.ill(q, c + "a1", 0);
        }
        check.ill(q, "a", 0);
        check.ill(q, "All", 0);
        check.ill(q, "alls", 0);
        check.ill(q, "al", 0);
        check.ill(q, "a1 # a2", 3);
        check.ill(q, "a1+#", 3);
        check.ill(q, "a1#", 2);
        check.ill(q, "deps(a1,100)", 8);
        check.ill(q, "deps(a1,007)", 8);
        check.ill(q, "kind(100,a1)", 5);
        check.ill(q, "deps(a1,1a)", 8);
        check.ill(q, "5", 0);
        check.ill(q, "letA=a1 in A", 0);
        check.ill(q, "let A=a1 inA", 9);
        check.ill(q, "a 1", 0);
        check.list(q, "  a1  ", 0);
        check.list(q, " deps ( a1 , 1 ) ", 0, 2, 1);
        check.list(q, "let A=a1 in(A)", 0);
        check.list(q, "deps(a1,01)", 0, 2, 1);
    }

    private static void grammar(Check check) {
        GraphQuery q = Check.sample();
        check.ill(q, "   ", 3);
        check.ill(q, "a1 a2", 3);
        check.ill(q, "a1)", 2);
        check.ill(q, "a1+", 3);
        check.ill(q, "a1+ ", 4);
        check.ill(q, "+a1", 0);
        check.ill(q, "a1+-a2", 3);
        check.ill(q, "()", 1);
        check.ill(q, "(a1", 3);
        check.ill(q, "(a1,a2)", 3);
        check.ill(q, "deps a1", 5);
        check.ill(q, "deps(a1", 7);
        check.ill(q, "deps(a1,)", 8);
        check.ill(q, "deps(a1,a2)", 8);
        check.ill(q, "deps(a1,2,3)", 9);
        check.ill(q, "deps(1,a1)", 5);
        check.ill(q, "users(a1,2", 10);
        check.ill(q, "users()", 6);
        check.ill(q, "way(a1)", 6);
        check.ill(q, "way(a1,)", 7);
        check.ill(q, "way(a1,a2,3)", 9);
        check.ill(q, "way(a1 a2)", 7);
        check.ill(q, "kind(a1,a1)", 5);
        check.ill(q, "kind(3 a1)", 7);
        check.ill(q, "kind(3)", 6);
        check.ill(q, "kind(3,)", 7);
        check.ill(q, "kind(3,a1,1)", 9);
        check.ill(q, "tests(a1,1)", 8);
        check.ill(q, "tests", 5);
        check.ill(q, "same(a1,1)", 7);
        check.ill(q, "same(a1", 7);
        check.ill(q, "in", 0);
        check.ill(q, "a1 = a2", 3);
        check.ill(q, "a1 & deps(a2) way", 14);
        // an ILL text is told as such, though an UNKNOWN NAME stands before
        check.ill(q, "f9+", 3);
    }

    // What can follow a TERM follows one that is not whole.
    private static void unfinished(Check check) {
        GraphQuery q = Check.sample();
        String[] words = {"deps", "users", "tests", "same", "way", "kind"};
        for (String word : words) {
            check.ill(q, word + "+a1", word.length());
            check.ill(q, "(" + word + ")", word.length() + 1);
            check.ill(q, "(" + word + "()", word.length() + 2);
        }
        check.ill(q, "(way(a1)", 7);
        check.ill(q, "(way(a1,)", 8);
        check.ill(q, "(kind(3)", 7);
        check.ill(q, "(kind(3,)", 8);
        check.ill(q, "(deps(a1,)", 9);
        check.ill(q, "(let)", 4);
        check.ill(q, "(let A)", 6);
        check.ill(q, "(let A=)", 7);
        check.ill(q, "(let A=a1)", 9);
        check.ill(q, "(let A=a1 in)", 12);
        check.ill(q, "(a1+)", 4);
        check.ill(q, "(A)", 1);
    }

    private static void letters(Check check) {
        GraphQuery q = Check.sample();
        check.ill(q, "A", 0);
        check.ill(q, "let A=A in A", 6);
        check.ill(q, "let A=a1 in B", 12);
        check.ill(q, "(let A=a1 in A)+A", 16);
        check.ill(q, "let A=let B=a1 in B in B", 23);
        check.ill(q, "let A=a1 in let B=A in A+C", 25);
        check.ill(q, "let a=a1 in a", 4);
        check.ill(q, "let a1=a1 in a1", 4);
        check.ill(q, "let A a1 in A", 6);
        check.ill(q, "let A=a1 A", 9);
        check.ill(q, "let A=a1", 8);
        check.ill(q, "let A=a1 in", 11);
        check.ill(q, "let =a1 in a1", 4);
        check.ill(q, "let", 3);
        check.ill(q, "let let=a1 in a1", 4);
        // a let that ended ILL leaves no LETTER for the next text
        check.ill(q, "let Z=a1 in Z+", 14);
        check.ill(q, "Z", 0);
        check.list(q, "let Z=a1 in Z", 0);
        check.ill(q, "Z", 0);
    }

    private static void depth(Check check) {
        GraphQuery q = Check.sample();
        check.list(q, "(".repeat(11) + "a1" + ")".repeat(11), 0);
        check.ill(q, "(".repeat(12) + "a1" + ")".repeat(12), 12);
        check.ill(q, "(".repeat(12) + " a1", 13);
        check.ill(q, "(".repeat(12), 12);
        check.ill(q, "(".repeat(12) + ")".repeat(12), 12);
        q = Check.sample();
        check.ill(q, "(".repeat(11) + "a1+deps(a2", 19);
        check.list(q, "(".repeat(11) + "a1+a2" + ")".repeat(11), 0, 1);
        String three = "same(deps(users(";
        check.list(q, three + "(".repeat(8) + "d4" + ")".repeat(11), 0, 1, 2, 3, 4, 5, 6, 7);
        q = Check.sample();
        check.ill(q, three + "(".repeat(9) + "d4" + ")".repeat(12), 25);
        check.ill(q, "tests(kind(3,way(" + "(".repeat(9) + "d4", 26);
        // the SUM before in and the one behind it are both within the let
        check.ill(q, "let A=" + "(".repeat(11) + "d4" + ")".repeat(11) + " in A", 17);
        q = Check.sample();
        check.ill(q, "let A=d4 in " + "(".repeat(11) + "A" + ")".repeat(11), 23);
        check.list(q, "let A=d4 in " + "(".repeat(10) + "A" + ")".repeat(10), 4);
        check.list(q, "let A=" + "(".repeat(10) + "d4" + ")".repeat(10) + " in A", 4);
        // TERMS side by side are not within each other
        check.list(q, "a1" + "+a1".repeat(26), 0);
    }

    private static void illLeavesAnswer(Check check) {
        GraphQuery q = Check.sample();
        check.list(q, "a2+a1", 1, 0);
        check.ill(q, "all+", 4);
        check.same("answer(0)", q.answer(0), 1);
        check.same("answer(1)", q.answer(1), 0);
        check.same("work", q.work(), 4);
        check.ill(q, "", 0);
    }
}
