/**
 * The edges that promises 1 to 4 (a new object, target, needs, need) name for
 * their calls. Each method is about one sentence, or one part of it.
 */
public final class GraphEdgesTest {
    private static final int NONE = -1;
    private static final int MOST = 30;

    private final Check check = new Check();

    public static void main(String[] args) {
        GraphEdgesTest test = new GraphEdgesTest();
        test.newObject();
        test.targetNumbers();
        test.targetThirty();
        test.targetPackage();
        test.targetDigit();
        test.targetKind();
        test.targetName();
        test.targetRefused();
        test.needsNoneSuch();
        test.needsAlready();
        test.needsItself();
        test.needsEight();
        test.need();
        test.needNoneSuch();
        test.check.end("GraphEdgesTest");
    }

    private void newObject() {
        check.sentence("No TARGETS, no answer.");
        GraphQuery q = new GraphQuery();
        for (int i = -1; i <= 1; i++) {
            check.same("answer(" + i + ")", q.answer(i), NONE);
            check.same("need(" + i + ", 0)", q.need(i, 0), NONE);
            check.same("far(" + i + ", 0)", q.far(i, 0), NONE);
            check.same("ways(" + i + ", 0, 0)", q.ways(i, 0, 0), NONE);
            check.same("needs(" + i + ", 0)", q.needs(i, 0), false);
        }
        check.same("nearest()", q.nearest(), NONE);
        check.same("work()", q.work(), 0);
        check.same("ask()", q.ask(), -1);
        check.list(q, "all");
        check.unknown(q, "a0", 0);
        check.same("NONE", GraphQuery.NONE, -1);
        check.sentence("a new object shares nothing with another one");
        GraphQuery full = Check.sample();
        full.type('a');
        check.same("ask()", new GraphQuery().ask(), -1);
        check.same("target(0, 1, 0)", new GraphQuery().target(0, 1, 0), 0);
        check.same("the other's ask()", full.ask(), -1);
    }

    private void targetNumbers() {
        check.sentence("A new TARGET: its number");
        GraphQuery q = new GraphQuery();
        check.same("first", q.target(5, 9, 3), 0);
        check.same("second", q.target(0, 0, 0), 1);
        check.same("refused", q.target(0, 0, 0), NONE);
        check.same("a refused one takes no number", q.target(0, 1, 0), 2);
    }

    private void targetThirty() {
        check.sentence("NONE if there are 30");
        GraphQuery q = Check.loose(28);
        check.same("29th", q.target(2, 8, 0), 28);
        check.same("30th", q.target(2, 9, 0), 29);
        check.same("31st", q.target(3, 0, 0), NONE);
        check.same("32nd", q.target(5, 9, 3), NONE);
        check.same("one that is there", q.target(0, 0, 0), NONE);
        check.list(q, "c9", 29);
        check.unknown(q, "d0", 0);
        check.same("need of the 31st", q.need(30, 0), NONE);
        check.same("needs of the 31st", q.needs(30, 0), false);
        check.same("far of the 31st", q.far(30, 30), NONE);
        check.same("ask all", Check.ask(q, "all"), MOST);
    }

    private void targetPackage() {
        check.sentence("PACKAGE isn't 0 .. 5 (a to f)");
        check.same("0", new GraphQuery().target(0, 0, 0), 0);
        check.same("5", new GraphQuery().target(5, 0, 0), 0);
        check.same("-1", new GraphQuery().target(-1, 0, 0), NONE);
        check.same("6", new GraphQuery().target(6, 0, 0), NONE);
        // would be a0 and f9 if PACKAGE and digit were but added
        check.same("-1 and 10", new GraphQuery().target(-1, 10, 0), NONE);
        check.same("6 and -1", new GraphQuery().target(6, -1, 0), NONE);
        for (int n : Check.FAR_OFF) {
            check.same("" + n, new GraphQuery().target(n, 0, 0), NONE);
        }
        for (int pack = 0; pack < 6; pack++) {
            GraphQuery q = new GraphQuery();
            q.target(pack, 4, 0);
            check.list(q, "abcdef".charAt(pack) + "4", 0);
        }
    }

    private void targetDigit() {
        check.sentence("digit 0 .. 9");
        check.same("0", new GraphQuery().target(0, 0, 0), 0);
        check.same("9", new GraphQuery().target(0, 9, 0), 0);
        check.same("-1", new GraphQuery().target(0, -1, 0), NONE);
        check.same("10", new GraphQuery().target(0, 10, 0), NONE);
        check.same("-1 of b", new GraphQuery().target(1, -1, 0), NONE);
        check.same("10 of f", new GraphQuery().target(5, 10, 0), NONE);
        for (int n : Check.FAR_OFF) {
            check.same("" + n, new GraphQuery().target(0, n, 0), NONE);
        }
        for (int digit = 0; digit < 10; digit++) {
            GraphQuery q = new GraphQuery();
            q.target(3, digit, 0);
            check.list(q, "d" + digit, 0);
        }
    }

    private void targetKind() {
        check.sentence("KIND 0 .. 3");
        check.same("-1", new GraphQuery().target(0, 0, -1), NONE);
        check.same("4", new GraphQuery().target(0, 0, 4), NONE);
        for (int n : Check.FAR_OFF) {
            check.same("" + n, new GraphQuery().target(0, 0, n), NONE);
        }
        for (int kind = 0; kind < 4; kind++) {
            GraphQuery q = new GraphQuery();
            check.same("" + kind, q.target(0, 0, kind), 0);
            check.same("kind " + kind, Check.ask(q, "kind(" + kind + ",a0)"), 1);
            check.same("another", Check.ask(q, "kind(" + (kind + 1) % 4 + ",a0)"), 0);
            check.same("KIND 3: it is a TEST", Check.ask(q, "tests(a0)"), kind == 3 ? 1 : 0);
        }
    }

    private void targetName() {
        check.sentence("or the NAME is there");
        GraphQuery q = new GraphQuery();
        q.target(2, 5, 1);
        check.same("c5, the same KIND", q.target(2, 5, 1), NONE);
        check.same("c5, another KIND", q.target(2, 5, 2), NONE);
        check.same("c4", q.target(2, 4, 1), 1);
        check.same("c6", q.target(2, 6, 1), 2);
        check.same("b5", q.target(1, 5, 1), 3);
        check.same("d5", q.target(3, 5, 1), 4);
        check.same("c4 again", q.target(2, 4, 0), NONE);
        check.same("d5 again", q.target(3, 5, 3), NONE);
        check.list(q, "kind(1,all)", 0, 1, 2, 3, 4);
    }

    private void targetRefused() {
        check.sentence("NONE: and nothing has changed");
        GraphQuery q = new GraphQuery();
        q.target(-1, 0, 0);
        q.target(0, 10, 0);
        q.target(0, 0, 4);
        check.list(q, "all");
        check.unknown(q, "a0", 0);
        check.unknown(q, "b0", 0);
        check.same("a0", q.target(0, 0, 2), 0);
        q.target(0, 0, 3);
        check.list(q, "kind(2,all)", 0);
        check.list(q, "kind(3,all)");
    }

    private void needsNoneSuch() {
        check.sentence("false if there are none such");
        GraphQuery q = Check.loose(2);
        check.same("needs(1, 2)", q.needs(1, 2), false);
        check.same("needs(2, 1)", q.needs(2, 1), false);
        check.same("needs(2, 2)", q.needs(2, 2), false);
        check.same("needs(-1, 1)", q.needs(-1, 1), false);
        check.same("needs(1, -1)", q.needs(1, -1), false);
        for (int n : Check.FAR_OFF) {
            check.same("needs(0, " + n + ")", q.needs(0, n), false);
            check.same("needs(" + n + ", 0)", q.needs(n, 0), false);
        }
        check.same("need(0, 0)", q.need(0, 0), NONE);
        check.same("need(1, 0)", q.need(1, 0), NONE);
        q.target(5, 0, 0);
        check.same("needs(1, 2) by now", q.needs(1, 2), true);
        check.same("needs(2, 1) by now", q.needs(2, 1), true);
        GraphQuery full = Check.loose(MOST);
        check.same("needs(29, 30)", full.needs(29, 30), false);
        check.same("needs(30, 29)", full.needs(30, 29), false);
        check.same("needs(29, 0)", full.needs(29, 0), true);
        check.same("needs(0, 29)", full.needs(0, 29), true);
    }

    private void needsAlready() {
        check.sentence("it does already");
        GraphQuery q = Check.loose(3);
        check.same("needs(0, 1)", q.needs(0, 1), true);
        check.same("needs(0, 1) again", q.needs(0, 1), false);
        check.same("needs(0, 2)", q.needs(0, 2), true);
        check.same("needs(0, 1) once more", q.needs(0, 1), false);
        check.same("needs(0, 2) again", q.needs(0, 2), false);
        check.same("need(0, 2)", q.need(0, 2), NONE);
        check.same("the other way round", q.needs(1, 0), true);
        check.same("another one", q.needs(2, 1), true);
    }

    private void needsItself() {
        check.sentence("NEEDS: other TARGETS or itself, in order (rings can be)");
        GraphQuery q = Check.loose(2);
        check.same("needs(0, 0)", q.needs(0, 0), true);
        check.same("needs(0, 0) again", q.needs(0, 0), false);
        check.same("needs(0, 1)", q.needs(0, 1), true);
        check.same("needs(1, 0)", q.needs(1, 0), true);
        check.same("need(0, 0)", q.need(0, 0), 0);
        check.same("need(0, 1)", q.need(0, 1), 1);
        check.same("need(1, 0)", q.need(1, 0), 0);
    }

    private void needsEight() {
        check.sentence("or it has 8");
        GraphQuery q = Check.loose(MOST);
        for (int i = 0; i < 7; i++) {
            check.same("needs " + (i + 1), q.needs(4, 20 - i), true);
        }
        check.same("needs 8, itself", q.needs(4, 4), true);
        check.same("needs 9", q.needs(4, 29), false);
        check.same("one that it has", q.needs(4, 20), false);
        check.same("needs 9 again", q.needs(4, 0), false);
        check.same("need 7", q.need(4, 6), 14);
        check.same("need 8", q.need(4, 7), 4);
        check.same("need 9", q.need(4, 8), NONE);
        check.same("the next TARGET has none", q.need(5, 0), NONE);
        check.same("far to the ninth", q.far(4, 29), NONE);
        check.same("ways to the ninth", q.ways(4, 29, 6), 0);
        check.list(q, "users(c9)", 29);
        check.same("another TARGET", q.needs(5, 29), true);
        check.same("one that many NEED", q.needs(6, 20), true);
    }

    private void need() {
        check.sentence("The i-th that a TARGET NEEDS");
        GraphQuery q = Check.loose(MOST);
        for (int i = 0; i < 8; i++) {
            q.needs(0, 29 - i);
            q.needs(29, i);
            q.needs(1, 10 + i);
        }
        for (int i = 0; i < 8; i++) {
            check.same("need(0, " + i + ")", q.need(0, i), 29 - i);
            check.same("need(29, " + i + ")", q.need(29, i), i);
            check.same("need(1, " + i + ")", q.need(1, i), 10 + i);
        }
        check.sentence("need: NONE if there is none such");
        for (int t : new int[] {0, 1, 29}) {
            check.same("need(" + t + ", -1)", q.need(t, -1), NONE);
            check.same("need(" + t + ", 8)", q.need(t, 8), NONE);
            check.same("need(" + t + ", 9)", q.need(t, 9), NONE);
            check.same("need(" + t + ", -8)", q.need(t, -8), NONE);
        }
    }

    private void needNoneSuch() {
        check.sentence("need: NONE if there is none such");
        GraphQuery q = Check.loose(3);
        q.needs(1, 0);
        check.same("need(1, 0)", q.need(1, 0), 0);
        check.same("need(1, 1)", q.need(1, 1), NONE);
        check.same("need(1, -1)", q.need(1, -1), NONE);
        check.same("need(0, 0)", q.need(0, 0), NONE);
        check.same("need(3, 0)", q.need(3, 0), NONE);
        check.same("need(-1, 0)", q.need(-1, 0), NONE);
        // would be need(1, 0) if eight times the TARGET and i were but added
        check.same("need(0, 8)", q.need(0, 8), NONE);
        check.same("need(2, -8)", q.need(2, -8), NONE);
        check.same("need(1 << 29, 8)", q.need(1 << 29, 8), NONE);
        for (int n : Check.FAR_OFF) {
            check.same("need(1, " + n + ")", q.need(1, n), NONE);
            check.same("need(" + n + ", 0)", q.need(n, 0), NONE);
        }
    }
}
