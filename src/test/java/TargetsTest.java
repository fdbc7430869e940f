/** Promises 1 to 4: a new object, target, needs, need. */
public final class TargetsTest {
    public static void main(String[] args) {
        Check check = new Check();
        newObject(check);
        targets(check);
        wrongTargets(check);
        thirty(check);
        needs(check);
        eight(check);
        check.end("TargetsTest");
    }

    private static void newObject(Check check) {
        GraphQuery q = new GraphQuery();
        check.same("NONE", GraphQuery.NONE, -1);
        check.same("answer(0)", q.answer(0), -1);
        check.same("work", q.work(), 0);
        check.same("nearest", q.nearest(), -1);
        check.same("need(0, 0)", q.need(0, 0), -1);
        check.same("needs(0, 0)", q.needs(0, 0), false);
        check.same("far(0, 0)", q.far(0, 0), -1);
        check.same("ways(0, 0, 0)", q.ways(0, 0, 0), -1);
        check.ill(q, "", 0);
        check.list(q, "all");
        GraphQuery other = new GraphQuery();
        other.target(0, 0, 0);
        check.list(q, "all");
    }

    private static void targets(Check check) {
        GraphQuery q = new GraphQuery();
        check.same("a0", q.target(0, 0, 0), 0);
        check.same("f9", q.target(5, 9, 3), 1);
        check.same("a0 again", q.target(0, 0, 1), -1);
        check.same("f9 again", q.target(5, 9, 3), -1);
        check.same("a9", q.target(0, 9, 0), 2);
        check.same("b0", q.target(1, 0, 0), 3);
        check.list(q, "b0+a9+f9+a0", 3, 2, 1, 0);
        check.list(q, "kind(3,all)", 1);
    }

    private static void wrongTargets(Check check) {
        GraphQuery q = new GraphQuery();
        int[] far = {-1, Integer.MIN_VALUE, Integer.MAX_VALUE};
        for (int n : far) {
            check.same("target pack " + n, q.target(n, 0, 0), -1);
            check.same("target digit " + n, q.target(0, n, 0), -1);
            check.same("target kind " + n, q.target(0, 0, n), -1);
        }
        check.same("pack 6", q.target(6, 0, 0), -1);
        check.same("digit 10", q.target(0, 10, 0), -1);
        check.same("kind 4", q.target(0, 0, 4), -1);
        check.list(q, "all");
        check.same("the refused NAME is free", q.target(0, 0, 0), 0);
    }

    private static void thirty(Check check) {
        GraphQuery q = new GraphQuery();
        for (int i = 0; i < 30; i++) {
            check.same("target " + i, q.target(i % 6, i / 6, i % 4), i);
        }
        check.same("the 31st", q.target(0, 9, 0), -1);
        check.same("ask all", Check.ask(q, "all"), 30);
        check.same("last", q.answer(29), 29);
        check.same("behind", q.answer(30), -1);
        check.same("needs of the last", q.needs(29, 29), true);
        check.same("needs behind", q.needs(29, 30), false);
        check.unknown(q, "a9", 0);
    }

    private static void needs(Check check) {
        GraphQuery q = new GraphQuery();
        q.target(0, 0, 0);
        q.target(0, 1, 0);
        check.same("needs(0, 1)", q.needs(0, 1), true);
        check.same("needs(0, 1) again", q.needs(0, 1), false);
        check.same("needs itself", q.needs(0, 0), true);
        check.same("needs itself again", q.needs(0, 0), false);
        check.same("a ring", q.needs(1, 0), true);
        int[] none = {-1, 2, 30, Integer.MIN_VALUE, Integer.MAX_VALUE};
        for (int n : none) {
            check.same("needs(0, " + n + ")", q.needs(0, n), false);
            check.same("needs(" + n + ", 0)", q.needs(n, 0), false);
            check.same("need(0, " + n + ")", q.need(0, n), -1);
            check.same("need(" + n + ", 0)", q.need(n, 0), -1);
        }
        check.same("need(0, 0)", q.need(0, 0), 1);
        check.same("need(0, 1)", q.need(0, 1), 0);
        check.same("need(1, 0)", q.need(1, 0), 0);
        check.same("need(1, 1)", q.need(1, 1), -1);
    }

    private static void eight(Check check) {
        GraphQuery q = new GraphQuery();
        for (int i = 0; i < 10; i++) {
            q.target(0, i, 0);
        }
        for (int i = 0; i < 8; i++) {
            check.same("needs " + i, q.needs(0, 9 - i), true);
        }
        check.same("a ninth", q.needs(0, 1), false);
        for (int i = 0; i < 8; i++) {
            check.same("need " + i, q.need(0, i), 9 - i);
        }
        check.same("need 8", q.need(0, 8), -1);
        check.same("the next TARGET has none", q.need(1, 0), -1);
    }
}
