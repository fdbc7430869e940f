/**
 * The edges that promises 5 to 8 and 11 (type, ask, answer, nearest, work) name for
 * their calls. Each method is about one sentence, or one part of it.
 */
public final class AskEdgesTest {
    private static final int NONE = -1;
    private static final int MOST = 30;

    private final Check check = new Check();

    public static void main(String[] args) {
        AskEdgesTest test = new AskEdgesTest();
        test.typeCodes();
        test.typeEighty();
        test.typeRefused();
        test.askEmptiesText();
        test.askCounts();
        test.askIllPlaces();
        test.askUnknownPlaces();
        test.askKeepsAnswer();
        test.answer();
        test.answerOfShorter();
        test.nearestDigit();
        test.nearestPackage();
        test.nearestNone();
        test.nearestLatest();
        test.nearestByNow();
        test.workBefore();
        test.workOfEach();
        test.workOfNone();
        test.workLatest();
        test.lastCall();
        test.check.end("AskEdgesTest");
    }

    private void typeCodes() {
        check.sentence("false if its code isn't 32 .. 126");
        for (int code = 0; code <= 0xFFFF; code++) {
            boolean due = code >= 32 && code <= 126;
            check.same("type " + code, new GraphQuery().type((char) code), due);
        }
        for (int code : new int[] {0, 31, 32, 33, 125, 126, 127, 128, 255, 256, 0x120, 0xFFFF}) {
            GraphQuery q = new GraphQuery();
            boolean due = code >= 32 && code <= 126;
            check.same("type " + code, q.type((char) code), due);
            check.same("ask of it", q.ask(), code == 32 ? -2 : -1);
        }
    }

    private void typeEighty() {
        check.sentence("A character comes at the end of the text; false .. there are 80");
        GraphQuery q = Check.loose(2);
        for (int i = 0; i < 76; i++) {
            check.same("type " + (i + 1), q.type(' '), true);
        }
        check.same("77th", q.type('a'), true);
        check.same("78th", q.type('1'), true);
        check.same("79th", q.type('+'), true);
        check.same("80th", q.type('('), true);
        check.same("81st", q.type('a'), false);
        check.same("82nd", q.type(' '), false);
        check.same("a wrong one behind 80", q.type((char) 127), false);
        check.same("ask", q.ask(), -81);
        for (int i = 0; i < 80; i++) {
            check.same("type once more " + (i + 1), q.type(i < 78 ? ' ' : "a1".charAt(i - 78)), true);
        }
        check.same("81st once more", q.type('1'), false);
        check.same("ask once more", q.ask(), 1);
        check.same("answer", q.answer(0), 1);
    }

    private void typeRefused() {
        check.sentence("type: a refused one leaves the text");
        GraphQuery q = Check.loose(2);
        check.same("a", q.type('a'), true);
        check.same("31", q.type((char) 31), false);
        check.same("127", q.type((char) 127), false);
        check.same("1", q.type('1'), true);
        check.same("tab", q.type('\t'), false);
        check.same("newline", q.type('\n'), false);
        check.same("ask", q.ask(), 1);
        check.same("answer", q.answer(0), 1);
    }

    private void askEmptiesText() {
        check.sentence("The text (which is empty then)");
        GraphQuery q = Check.sample();
        check.ill(q, "", 0);
        check.list(q, "a1", 0);
        check.ill(q, "", 0);
        check.ill(q, "a1+", 3);
        check.ill(q, "", 0);
        check.unknown(q, "f9", 0);
        check.ill(q, "", 0);
        check.list(q, "c3", 3);
    }

    private void askCounts() {
        check.sentence("how many TARGETS the LIST has");
        check.list(new GraphQuery(), "all");
        for (int count : new int[] {1, 2, 29, 30}) {
            check.same("ask all of " + count, Check.ask(Check.loose(count), "all"), count);
        }
        check.list(Check.loose(MOST), "a0-a0");
    }

    private void askIllPlaces() {
        check.sentence("- 1 less the place at which it is ILL");
        for (int place = 0; place < 80; place++) {
            check.ill(Check.loose(1), " ".repeat(place) + "+", place);
            check.ill(Check.loose(1), " ".repeat(place), place);
        }
        check.ill(Check.loose(1), " ".repeat(80), 80);
    }

    private void askUnknownPlaces() {
        check.sentence("- 101 less the place of the first UNKNOWN NAME");
        for (int place = 0; place <= 78; place++) {
            check.unknown(Check.loose(1), " ".repeat(place) + "f9", place);
        }
        check.ill(Check.loose(1), " ".repeat(79) + "f", 79);
    }

    private void askKeepsAnswer() {
        check.sentence("(In both cases the ANSWER stays.)");
        GraphQuery q = Check.sample();
        check.ill(q, "+", 0);
        check.same("no ANSWER yet", q.answer(0), NONE);
        check.unknown(q, "f9", 0);
        check.same("no ANSWER yet", q.answer(0), NONE);
        check.list(q, "c3+a1", 3, 0);
        String[] wrong = {"", "all)", "all+f9", "f9"};
        for (String text : wrong) {
            check.same("ask of '" + text + "'", Check.ask(q, text) < 0, true);
            check.same("answer(0)", q.answer(0), 3);
            check.same("answer(1)", q.answer(1), 0);
            check.same("answer(2)", q.answer(2), NONE);
        }
        check.sentence("the LIST .. which is the ANSWER: also one of nothing");
        check.list(q, "a1-a1");
        check.ill(q, "a1)", 2);
        check.same("answer(0) of nothing", q.answer(0), NONE);
    }

    private void answer() {
        check.sentence("The i-th TARGET of the ANSWER; NONE if there is none such");
        GraphQuery q = Check.sample();
        check.list(q, "c3+a1+c8", 3, 0, 7);
        check.same("answer(-1)", q.answer(-1), NONE);
        check.same("answer(0)", q.answer(0), 3);
        check.same("answer(2)", q.answer(2), 7);
        check.same("answer(3)", q.answer(3), NONE);
        for (int n : Check.FAR_OFF) {
            check.same("answer(" + n + ")", q.answer(n), NONE);
        }
        GraphQuery full = Check.loose(MOST);
        check.same("ask all", Check.ask(full, "all"), MOST);
        check.same("answer(-1) of 30", full.answer(-1), NONE);
        check.same("answer(0) of 30", full.answer(0), 0);
        check.same("answer(29) of 30", full.answer(29), 29);
        check.same("answer(30) of 30", full.answer(30), NONE);
        full.needs(0, 1);
        check.same("answer(29) later", full.answer(29), 29);
    }

    private void answerOfShorter() {
        check.sentence("the ANSWER is the latest one's alone");
        GraphQuery q = Check.sample();
        check.list(q, "all", 0, 1, 2, 3, 4, 5, 6, 7);
        check.list(q, "c3", 3);
        check.same("answer(1)", q.answer(1), NONE);
        check.same("answer(7)", q.answer(7), NONE);
        check.list(q, "a1-a1");
        check.same("answer(0)", q.answer(0), NONE);
        check.list(q, "all", 0, 1, 2, 3, 4, 5, 6, 7);
        q.target(5, 5, 0);
        check.same("a later TARGET isn't in it", q.answer(8), NONE);
    }

    private static int nearestOf(String name, int... packsAndDigits) {
        GraphQuery q = new GraphQuery();
        for (int i = 0; i + 1 < packsAndDigits.length; i += 2) {
            q.target(packsAndDigits[i], packsAndDigits[i + 1], 0);
        }
        return Check.ask(q, name) < -100 ? q.nearest() : -2;
    }

    private void nearestDigit() {
        check.sentence("one of the PACKAGE whose digit differs least");
        check.same("c0: c9", nearestOf("c0", 2, 9), 0);
        check.same("c9: c0", nearestOf("c9", 2, 0), 0);
        check.same("c5: c7, c4", nearestOf("c5", 2, 7, 2, 4), 1);
        check.same("c5: c6, c3", nearestOf("c5", 2, 6, 2, 3), 0);
        check.same("c5: c9, c0", nearestOf("c5", 2, 9, 2, 0), 0);
        check.same("c0: c9, c1", nearestOf("c0", 2, 9, 2, 1), 1);
        check.same("c9: c8, c0", nearestOf("c9", 2, 8, 2, 0), 0);
        check.same("a0: a1", nearestOf("a0", 1, 0, 0, 1), 1);
        check.same("f9: f8", nearestOf("f9", 4, 9, 5, 8), 1);
        check.sentence("of like ones the lesser digit");
        check.same("c5: c6, c4", nearestOf("c5", 2, 6, 2, 4), 1);
        check.same("c5: c4, c6", nearestOf("c5", 2, 4, 2, 6), 0);
        check.same("c5: c9, c1", nearestOf("c5", 2, 9, 2, 1), 1);
        check.same("c4: c8, c0", nearestOf("c4", 2, 8, 2, 0), 1);
        check.same("c5: c7, c4, c6", nearestOf("c5", 2, 7, 2, 4, 2, 6), 1);
        check.sentence("the PACKAGE before the digit");
        check.same("c0: b0, d0, c9", nearestOf("c0", 1, 0, 3, 0, 2, 9), 2);
        check.same("c9: c0, d9", nearestOf("c9", 2, 0, 3, 9), 0);
        check.same("a9: b0, a0", nearestOf("a9", 1, 0, 0, 0), 1);
    }

    private void nearestPackage() {
        check.sentence("if none has the PACKAGE, of the digit, whose PACKAGE differs least");
        check.same("a3: f3", nearestOf("a3", 5, 3), 0);
        check.same("f3: a3", nearestOf("f3", 0, 3), 0);
        check.same("c3: e3, b3", nearestOf("c3", 4, 3, 1, 3), 1);
        check.same("c3: d3, a3", nearestOf("c3", 3, 3, 0, 3), 0);
        check.same("c3: f3, a3", nearestOf("c3", 5, 3, 0, 3), 1);
        check.same("d3: f3, a3", nearestOf("d3", 5, 3, 0, 3), 0);
        check.same("c0: b0, b9", nearestOf("c0", 1, 9, 1, 0), 1);
        check.sentence("likewise: of like ones the lesser PACKAGE");
        check.same("c3: d3, b3", nearestOf("c3", 3, 3, 1, 3), 1);
        check.same("c3: b3, d3", nearestOf("c3", 1, 3, 3, 3), 0);
        check.same("c3: e3, a3", nearestOf("c3", 4, 3, 0, 3), 1);
        check.same("d3: f3, b3", nearestOf("d3", 5, 3, 1, 3), 1);
    }

    private void nearestNone() {
        check.sentence("NONE if there is none such");
        check.same("c3: nothing", nearestOf("c3"), NONE);
        check.same("c3: b2, d4", nearestOf("c3", 1, 2, 3, 4), NONE);
        // neighbours of the NAME's number, were it PACKAGE times ten and the digit
        check.same("c0: b9", nearestOf("c0", 1, 9), NONE);
        check.same("b9: c0", nearestOf("b9", 2, 0), NONE);
        check.same("a0: b1, f9", nearestOf("a0", 1, 1, 5, 9), NONE);
        check.sentence("or there was no such ask");
        GraphQuery q = Check.loose(MOST);
        check.same("before any ask", q.nearest(), NONE);
        check.list(q, "a0", 0);
        check.same("after a right text", q.nearest(), NONE);
        check.ill(q, "f9+", 3);
        check.same("after an ILL text", q.nearest(), NONE);
        check.unknown(q, "f9", 0);
        check.same("after such a one", q.nearest(), 29);
    }

    private void nearestLatest() {
        check.sentence("For the latest ask that told an UNKNOWN NAME");
        GraphQuery q = Check.sample();
        check.unknown(q, "a0", 0);
        check.same("a0", q.nearest(), 0);
        check.same("a0 again", q.nearest(), 0);
        check.unknown(q, "c9", 0);
        check.same("c9", q.nearest(), 7);
        check.list(q, "a1", 0);
        check.same("a right text leaves it", q.nearest(), 7);
        check.ill(q, "a0+", 3);
        check.same("an ILL text leaves it", q.nearest(), 7);
        check.ill(q, "", 0);
        check.same("an empty text leaves it", q.nearest(), 7);
        check.unknown(q, "f7", 0);
        check.same("the latest one has none", q.nearest(), NONE);
        check.unknown(q, "a1+b8+a0", 3);
        check.same("the first UNKNOWN one", q.nearest(), 5);
    }

    private void nearestByNow() {
        check.sentence("(As by now.)");
        GraphQuery q = new GraphQuery();
        check.unknown(q, "c5", 0);
        check.same("no TARGETS", q.nearest(), NONE);
        q.target(5, 5, 0);
        check.same("f5", q.nearest(), 0);
        q.target(1, 5, 0);
        check.same("b5", q.nearest(), 1);
        q.target(2, 0, 0);
        check.same("c0", q.nearest(), 2);
        q.target(2, 6, 0);
        check.same("c6", q.nearest(), 3);
        q.target(2, 4, 0);
        check.same("c4", q.nearest(), 4);
        q.target(2, 5, 0);
        check.same("c5 itself", q.nearest(), 5);
    }

    private void workBefore() {
        check.sentence("0 before");
        GraphQuery q = Check.sample();
        check.same("new", q.work(), 0);
        check.ill(q, "all+", 4);
        check.same("after an ILL text", q.work(), 0);
        check.unknown(q, "all+f9", 4);
        check.same("after an UNKNOWN NAME", q.work(), 0);
        check.list(q, "a1", 0);
        check.same("after the first", q.work(), 1);
    }

    private void work(String text, int due) {
        GraphQuery q = Check.sample();
        check.same("ask of '" + text + "'", Check.ask(q, text) >= 0, true);
        check.same("work of '" + text + "'", q.work(), due);
    }

    private void workOfEach() {
        check.sentence("each TERM made one");
        work("a1", 1);
        work("all", 8);
        work("deps(a1)", 1 + 5);
        work("deps(a1,0)", 1 + 1);
        work("users(a1)", 1 + 6);
        work("users(a1,0)", 1 + 1);
        work("way(a1,d4)", 1 + 1 + 3);
        work("kind(0,all)", 8 + 2);
        work("tests(a2)", 1 + 2);
        work("same(a2)", 1 + 2);
        work("let A=all in A", 8 + 8);
        check.sentence("but ( SUM ) and let");
        work("(a1)", 1);
        work("(((all)))", 8);
        work("let A=all in a1", 8 + 1);
        work("let A=a1 in let B=all in a2", 1 + 8 + 1);
        work("let A=all in A&A&A", 8 + 8 + 8 + 8 + 8 + 8);
        check.sentence("and each + - &");
        work("a1+a2", 1 + 1 + 2);
        work("a1+a1", 1 + 1 + 1);
        work("all-a1", 8 + 1 + 7);
        work("all&a1", 8 + 1 + 1);
        work("a1+a2-a1&a2", 1 + 1 + 2 + 1 + 1 + 1 + 1);
        work("a1+(a2-a1)", 1 + 1 + 1 + 1 + 2);
    }

    private void workOfNone() {
        check.sentence("the sum of their lengths: also of those of nothing");
        work("a1-a1", 1 + 1);
        work("a1&a2", 1 + 1);
        work("deps(a1-a1)", 1 + 1);
        work("users(a1-a1)", 1 + 1);
        work("way(d4,a1)", 1 + 1);
        work("kind(9,a1)", 1);
        work("tests(a1-a1)", 1 + 1);
        work("same(a1-a1)", 1 + 1);
        work("let A=a1-a1 in A", 1 + 1);
        GraphQuery empty = new GraphQuery();
        check.list(empty, "all+all-all&all");
        check.same("work of nothing", empty.work(), 0);
        GraphQuery full = Check.loose(MOST);
        check.same("ask of 20 times all", Check.ask(full, "all+".repeat(19) + "all"), MOST);
        check.same("work of it", full.work(), 39 * MOST);
    }

    private void workLatest() {
        check.sentence("the latest ask that was 0 or more");
        GraphQuery q = Check.sample();
        check.list(q, "all-a1-a2-b2-c3-d4-b9-e0", 7);
        check.same("work", q.work(), 8 + 7 + 7 + 6 + 5 + 4 + 3 + 2 + 1);
        check.list(q, "c3", 3);
        check.same("the later one's alone", q.work(), 1);
        check.ill(q, "all)", 3);
        check.same("an ILL text leaves it", q.work(), 1);
        check.unknown(q, "all+f9", 4);
        check.same("an UNKNOWN NAME leaves it", q.work(), 1);
        check.list(q, "kind(9,all)");
        check.same("one that was 0 counts", q.work(), 8);
    }

    private void lastCall() {
        check.sentence("An object is used for at most 512 calls");
        GraphQuery q = Check.loose(MOST);
        int calls = MOST;
        for (int t = 0; t < MOST; t++) {
            for (int i = 1; i <= 8; i++) {
                check.same("needs", q.needs(t, (t + i) % MOST), true);
                calls++;
            }
        }
        String text = "let A=users(all)in let B=deps(A+all)in deps(way(A&B,c9))+users(tests(B)-a0)+B+A ";
        while (calls + text.length() + 1 < 510) {
            for (int i = 0; i < text.length(); i++) {
                check.same("type", q.type(text.charAt(i)), true);
                calls++;
            }
            check.same("ask", q.ask(), MOST);
            calls++;
        }
        while (calls < 509) {
            check.same("ways", q.ways(0, 29, 6) > 0, true);
            calls++;
        }
        check.same("call 510", q.answer(0), 29);
        check.same("call 511", q.far(29, 28), 4);
        check.same("call 512", q.need(29, 7), 7);
    }
}
