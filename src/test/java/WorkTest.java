/** Promise 11: work. */
public final class WorkTest {
    public static void main(String[] args) {
        Check check = new Check();
        GraphQuery q = Check.sample();
        check.same("before", q.work(), 0);
        due(check, q, "a1", 1);
        due(check, q, "((a1))", 1);
        due(check, q, "all", 8);
        due(check, q, "a1+a2", 1 + 1 + 2);
        due(check, q, "all-a1", 8 + 1 + 7);
        due(check, q, "all&(a1)", 8 + 1 + 1);
        due(check, q, "deps(a1)", 1 + 5);
        due(check, q, "users(c3,1)", 1 + 3);
        due(check, q, "way(a1,d4)", 1 + 1 + 3);
        due(check, q, "way(d4,a1)", 1 + 1);
        due(check, q, "kind(3,all)", 8 + 3);
        due(check, q, "tests(d4)", 1 + 2);
        due(check, q, "same(c3)", 1 + 2);
        due(check, q, "let A=a1+a2 in A", 4 + 2);
        due(check, q, "let A=all in a1", 8 + 1);
        due(check, q, "let A=all in A&A", 8 + 8 + 8 + 8);
        due(check, q, "a1-a1", 1 + 1);
        due(check, q, "kind(9,a1-a1)", 1 + 1);
        check.ill(q, "all+", 4);
        check.same("after an ILL text", q.work(), 2);
        check.unknown(q, "all+f9", 4);
        check.same("after an UNKNOWN NAME", q.work(), 2);
        GraphQuery empty = new GraphQuery();
        due(check, q, "a1", 1);
        due(check, empty, "all", 0);
        check.end("WorkTest");
    }

    private static void due(Check check, GraphQuery q, String text, int work) {
        check.same("'" + text + "' is right", Check.ask(q, text) >= 0, true);
        check.same("work of '" + text + "'", q.work(), work);
    }
}
