/** Promises 9 and 10: far and ways. */
public final class PathsTest {
    public static void main(String[] args) {
        Check check = new Check();
        far(check);
        ways(check);
        wrongOnes(check);
        full(check);
        check.end("PathsTest");
    }

    private static void far(Check check) {
        GraphQuery q = Check.sample();
        check.same("far(0, 0)", q.far(0, 0), 0);
        check.same("far(4, 4), which NEEDS itself", q.far(4, 4), 0);
        check.same("far(0, 2)", q.far(0, 2), 1);
        check.same("far(0, 3)", q.far(0, 3), 2);
        check.same("far(6, 4)", q.far(6, 4), 6);
        check.same("far(4, 0)", q.far(4, 0), -1);
        check.same("far(0, 7)", q.far(0, 7), -1);
        GraphQuery chain = ListsTest.chain(30);
        check.same("far along a chain", chain.far(0, 29), 29);
        check.same("not back", chain.far(29, 0), -1);
    }

    private static void ways(Check check) {
        GraphQuery q = Check.sample();
        check.same("ways(0, 0, 0)", q.ways(0, 0, 0), 1);
        check.same("ways(0, 0, 6) in a ring", q.ways(0, 0, 6), 1);
        check.same("ways(4, 4, 6)", q.ways(4, 4, 6), 1);
        check.same("ways(0, 2, 0)", q.ways(0, 2, 0), 0);
        check.same("ways(0, 2, 1)", q.ways(0, 2, 1), 1);
        check.same("ways(0, 3, 1)", q.ways(0, 3, 1), 0);
        check.same("ways(0, 3, 2)", q.ways(0, 3, 2), 2);
        check.same("ways(0, 4, 2)", q.ways(0, 4, 2), 1);
        check.same("ways(0, 4, 6)", q.ways(0, 4, 6), 1);
        check.same("ways(6, 4, 5)", q.ways(6, 4, 5), 0);
        check.same("ways(6, 4, 6)", q.ways(6, 4, 6), 1);
        check.same("ways(4, 0, 6)", q.ways(4, 0, 6), 0);
        GraphQuery chain = ListsTest.chain(10);
        check.same("six steps", chain.ways(0, 6, 6), 1);
        check.same("seven steps", chain.ways(0, 7, 6), 0);
    }

    private static void wrongOnes(Check check) {
        GraphQuery q = Check.sample();
        int[] none = {-1, 8, 30, Integer.MIN_VALUE, Integer.MAX_VALUE};
        for (int n : none) {
            check.same("far(0, " + n + ")", q.far(0, n), -1);
            check.same("far(" + n + ", 0)", q.far(n, 0), -1);
            check.same("far(" + n + ", " + n + ")", q.far(n, n), -1);
            check.same("ways(0, " + n + ", 1)", q.ways(0, n, 1), -1);
            check.same("ways(" + n + ", 0, 1)", q.ways(n, 0, 1), -1);
            check.same("ways(" + n + ", " + n + ", 0)", q.ways(n, n, 0), -1);
        }
        int[] steps = {-1, 7, Integer.MIN_VALUE, Integer.MAX_VALUE};
        for (int s : steps) {
            check.same("ways(0, 1, " + s + ")", q.ways(0, 1, s), -1);
            check.same("ways(0, 0, " + s + ")", q.ways(0, 0, s), -1);
        }
    }

    // Eight TARGETS that all NEED each other and themselves: ways of k steps pass k - 1 of six.
    private static void full(Check check) {
        GraphQuery q = new GraphQuery();
        for (int i = 0; i < 8; i++) {
            q.target(0, i, 0);
        }
        for (int i = 0; i < 8; i++) {
            for (int j = 0; j < 8; j++) {
                q.needs(i, j);
            }
        }
        int[] due = {0, 1, 7, 37, 157, 517, 1237};
        for (int steps = 0; steps < due.length; steps++) {
            check.same("ways of " + steps, q.ways(3, 5, steps), due[steps]);
            check.same("ways to itself of " + steps, q.ways(3, 3, steps), 1);
        }
    }
}
