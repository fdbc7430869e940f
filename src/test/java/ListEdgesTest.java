import java.util.Arrays;

/**
 * The edges that "Terms" names for LISTS: nothing in them, everything, each once, how many
 * rounds, which one first. Each method is about one sentence.
 */
public final class ListEdgesTest {
    private static final int MOST = 30;

    private final Check check = new Check();

    public static void main(String[] args) {
        ListEdgesTest test = new ListEdgesTest();
        test.eachOnce();
        test.all();
        test.plus();
        test.minus();
        test.cut();
        test.fromTheLeft();
        test.depsListFirst();
        test.depsInOrder();
        test.depsRounds();
        test.depsTillNothingComes();
        test.depsOfEight();
        test.users();
        test.usersRounds();
        test.usersOfAll();
        test.wayFromItself();
        test.wayNothing();
        test.wayFirstThatComes();
        test.wayCameFirst();
        test.wayLongest();
        test.wayAfterWay();
        test.mostHeldBack();
        test.kind();
        test.tests();
        test.testsInTheEnd();
        test.same();
        test.let();
        test.check.end("ListEdgesTest");
    }

    private void right(String text, int... due) {
        check.list(Check.sample(), text, due);
    }

    private static int[] upTo(int count) {
        int[] numbers = new int[count];
        for (int i = 0; i < count; i++) {
            numbers[i] = i;
        }
        return numbers;
    }

    private static int[] downFrom(int count) {
        int[] numbers = new int[count];
        for (int i = 0; i < count; i++) {
            numbers[i] = count - 1 - i;
        }
        return numbers;
    }

    /** Pairs: who NEEDS, and whom. */
    private static GraphQuery linked(int count, int... pairs) {
        GraphQuery q = Check.loose(count);
        for (int i = 0; i + 1 < pairs.length; i += 2) {
            q.needs(pairs[i], pairs[i + 1]);
        }
        return q;
    }

    private void eachOnce() {
        check.sentence("Each gives a LIST of TARGETS, each once");
        right("c3+c3", 3);
        right("all+all", upTo(8));
        right("deps(a1+a2+b2+c3)", 0, 1, 2, 3, 4);
        right("users(c3+a1)", 3, 0, 1, 2, 5, 6);
        right("tests(a1+a2+b9)", 5, 6);
        right("same(a1+a2)", 0, 1);
        check.list(linked(2, 0, 1, 1, 0), "deps(a0)", 0, 1);
        check.list(linked(2, 0, 1, 1, 0), "users(a0)", 0, 1);
        check.list(linked(1, 0, 0), "deps(a0)", 0);
        check.list(linked(1, 0, 0), "users(a0)", 0);
    }

    private void all() {
        check.sentence("all: all by their numbers");
        check.list(Check.loose(0), "all");
        check.list(Check.loose(1), "all", 0);
        check.list(Check.loose(29), "all", upTo(29));
        check.list(Check.loose(MOST), "all", upTo(MOST));
        GraphQuery q = new GraphQuery();
        q.target(5, 9, 0);
        q.target(0, 0, 0);
        check.list(q, "all", 0, 1);
        check.list(q, "f9", 0);
        check.list(q, "a0", 1);
        check.list(Check.loose(MOST), "c9", 29);
    }

    private void plus() {
        check.sentence("a + b: a, then those of b that aren't in a");
        right("(a1-a1)+(a2-a2)");
        right("(a1-a1)+c3", 3);
        right("c3+(a1-a1)", 3);
        right("(c3+a1)+(a1+d4+c3+a2)", 3, 0, 4, 1);
        right("c8+all", 7, 0, 1, 2, 3, 4, 5, 6);
        right("all+c8", upTo(8));
        check.list(Check.loose(MOST), "c9+all-c9+c9", upTo(MOST));
    }

    private void minus() {
        check.sentence("a - b: those of a that aren't in b");
        right("(a1-a1)-(a1-a1)");
        right("(a1-a1)-a1");
        right("(c3+a1)-(a1-a1)", 3, 0);
        right("all-all");
        right("(c3+a1+d4)-a1", 3, 4);
        right("(c3+a1)-c8", 3, 0);
        right("a1-all");
        check.list(Check.loose(MOST), "all-a0-c9", Arrays.copyOfRange(upTo(29), 1, 29));
    }

    private void cut() {
        check.sentence("a & b: those of a that are in b");
        right("(a1-a1)&(a1-a1)");
        right("(a1-a1)&all");
        right("all&(a1-a1)");
        right("all&all", upTo(8));
        right("(c3+a1+d4)&(d4+c3)", 3, 4);
        right("(d4+c3)&(c3+a1+d4)", 4, 3);
        right("a1&c3");
        check.list(Check.loose(MOST), "all&(c9+a0)", 0, 29);
    }

    private void fromTheLeft() {
        check.sentence("(From the left.)");
        right("a1-a1+a1", 0);
        right("a1-(a1+a1)");
        right("a1+c3&c3", 3);
        right("a1+(c3&c3)", 0, 3);
        right("all-a1-a2-b2-c3-d4-b9", 6, 7);
        right("c3-(c3-c3)", 3);
        right("c3&c3+a1", 3, 0);
        right("c3&(c3+a1)", 3);
    }

    private void depsListFirst() {
        check.sentence("deps: .. the LIST itself first");
        right("deps(a1-a1)");
        right("deps(a1-a1,9)");
        right("deps(c8)", 7);
        right("deps(c8+d4)", 7, 4);
        right("deps(d4+a1,1)", 4, 0, 2, 1);
        right("deps(all)", upTo(8));
    }

    private void depsInOrder() {
        check.sentence("for each one of the round before in order, its NEEDS in order");
        check.list(linked(5, 0, 4, 0, 2, 4, 3, 2, 1), "deps(a0)", 0, 4, 2, 3, 1);
        check.list(linked(5, 0, 2, 0, 4, 4, 3, 2, 1), "deps(a0)", 0, 2, 4, 1, 3);
        check.list(linked(5, 0, 3, 1, 2), "deps(a1+a0)", 1, 0, 2, 3);
        check.list(linked(5, 0, 3, 1, 2), "deps(a0+a1)", 0, 1, 3, 2);
        check.sentence("the round before alone: its own later");
        check.list(linked(5, 0, 1, 1, 2, 0, 3), "deps(a0)", 0, 1, 3, 2);
    }

    private void depsRounds() {
        check.sentence("at most NUMBER rounds behind the first");
        for (int rounds = 0; rounds < MOST; rounds++) {
            check.list(ListsTest.chain(MOST), "deps(a0," + rounds + ")", upTo(rounds + 1));
        }
        check.list(ListsTest.chain(MOST), "deps(a0,30)", upTo(MOST));
        check.list(ListsTest.chain(MOST), "deps(a0,99)", upTo(MOST));
        check.list(ListsTest.chain(MOST), "deps(a0+c9,1)", 0, 29, 1);
        right("deps(a1-a1,0)");
    }

    private void depsTillNothingComes() {
        check.sentence("(without one: till nothing comes)");
        check.list(ListsTest.chain(1), "deps(a0)", 0);
        check.list(ListsTest.chain(2), "deps(a0)", 0, 1);
        check.list(ListsTest.chain(MOST), "deps(a0)", upTo(MOST));
        check.list(ListsTest.chain(MOST), "deps(c8)", 28, 29);
        check.list(ListsTest.chain(MOST), "deps(c9)", 29);
        GraphQuery ring = ListsTest.chain(MOST);
        ring.needs(29, 0);
        check.same("ask in a ring of 30", Check.ask(ring, "deps(b0)"), MOST);
        for (int i = 0; i < MOST; i++) {
            check.same("answer(" + i + ")", ring.answer(i), (10 + i) % MOST);
        }
    }

    private void depsOfEight() {
        check.sentence("NEEDS: .. in order, at most 8");
        GraphQuery q = linked(10, 0, 9, 0, 8, 0, 7, 0, 6, 0, 5, 0, 4, 0, 3, 0, 2, 0, 1, 1, 0);
        check.list(q, "deps(a0)", 0, 9, 8, 7, 6, 5, 4, 3, 2);
        check.list(q, "users(a1)", 1);
        check.list(q, "users(a2,1)", 2, 0);
        check.list(q, "way(a0,a1)");
        check.list(q, "way(a0,a2)", 0, 2);
    }

    private void users() {
        check.sentence("users: likewise, with those that NEED it, by their numbers");
        right("users(a1-a1)");
        right("users(c8)", 7);
        right("users(d4,1)", 4, 2);
        check.list(linked(4, 3, 0, 1, 0, 2, 0), "users(a0)", 0, 1, 2, 3);
        check.list(linked(6, 4, 1, 3, 0, 5, 0), "users(a1+a0)", 1, 0, 4, 3, 5);
        check.list(linked(6, 4, 1, 3, 0, 5, 0), "users(a0+a1)", 0, 1, 3, 5, 4);
        check.list(linked(5, 4, 0, 3, 0, 1, 4, 2, 3), "users(a0)", 0, 3, 4, 2, 1);
    }

    private void usersRounds() {
        check.sentence("users: at most NUMBER rounds");
        for (int rounds = 0; rounds < MOST; rounds++) {
            int[] due = new int[rounds + 1];
            System.arraycopy(downFrom(MOST), 0, due, 0, due.length);
            check.list(ListsTest.chain(MOST), "users(c9," + rounds + ")", due);
        }
        check.list(ListsTest.chain(MOST), "users(c9,30)", downFrom(MOST));
        check.list(ListsTest.chain(MOST), "users(c9,99)", downFrom(MOST));
        check.list(ListsTest.chain(MOST), "users(c9)", downFrom(MOST));
        check.list(ListsTest.chain(MOST), "users(a0)", 0);
        check.list(ListsTest.chain(MOST), "users(a1)", 1, 0);
    }

    // No sentence bounds how many NEED one TARGET.
    private void usersOfAll() {
        check.sentence("those that NEED it");
        GraphQuery q = Check.loose(MOST);
        for (int t = MOST - 1; t >= 0; t--) {
            check.same("needs(" + t + ", 29)", q.needs(t, 29), true);
        }
        int[] due = new int[MOST];
        due[0] = 29;
        System.arraycopy(upTo(29), 0, due, 1, 29);
        check.list(q, "users(c9)", due);
        check.list(q, "users(c9,1)", due);
    }

    private void wayFromItself() {
        check.sentence("way: .. the first one that comes and is in the second LIST ends it");
        right("way(a1,a1)", 0);
        right("way(d4,d4)", 4);
        right("way(c8,c8)", 7);
        right("way(a1,all)", 0);
        right("way(all,d4)", 4);
        right("way(a2+a1,a1+a2)", 1);
        right("way(a1+d4,d4)", 4);
        right("way(a1+b2,d4+b2)", 2);
        right("way(all,all)", 0);
    }

    private void wayNothing() {
        check.sentence("(Nothing if there is none.)");
        right("way(a1-a1,a1-a1)");
        right("way(a1-a1,all)");
        right("way(all,a1-a1)");
        right("way(d4,a1)");
        right("way(c8,a1)");
        right("way(a1,c8)");
        right("way(b2,b9+e0+c8)");
        check.list(linked(2, 0, 1), "way(a1,a0)");
        check.list(linked(2, 0, 1), "way(a0,a1)", 0, 1);
    }

    private void wayFirstThatComes() {
        check.sentence("the first one that comes");
        check.list(linked(4, 0, 2, 0, 1), "way(a0,a1+a2)", 0, 2);
        check.list(linked(4, 0, 1, 0, 2), "way(a0,a2+a1)", 0, 1);
        check.list(linked(5, 0, 1, 1, 4, 0, 3), "way(a0,a4+a3)", 0, 3);
        check.list(linked(5, 0, 3, 1, 2), "way(a1+a0,a3+a2)", 1, 2);
        check.list(linked(5, 0, 3, 1, 2), "way(a0+a1,a2+a3)", 0, 3);
        check.sentence("the shortest row");
        check.list(linked(5, 0, 1, 1, 2, 2, 3, 0, 3), "way(a0,a3)", 0, 3);
        check.list(linked(5, 0, 1, 1, 2, 2, 3, 0, 2), "way(a0,a3)", 0, 2, 3);
        check.list(linked(5, 0, 1, 1, 2, 2, 3, 4, 2), "way(a0+a4,a3)", 4, 2, 3);
    }

    private void wayCameFirst() {
        check.sentence("each came by the one for which it came first");
        check.list(linked(4, 0, 1, 0, 2, 1, 3, 2, 3), "way(a0,a3)", 0, 1, 3);
        check.list(linked(4, 0, 2, 0, 1, 1, 3, 2, 3), "way(a0,a3)", 0, 2, 3);
        check.list(linked(3, 0, 2, 1, 2), "way(a0+a1,a2)", 0, 2);
        check.list(linked(3, 0, 2, 1, 2), "way(a1+a0,a2)", 1, 2);
        // one of the first LIST came by none, even if another one NEEDS it
        check.list(linked(3, 0, 1, 1, 2), "way(a0+a1,a2)", 1, 2);
    }

    private void wayLongest() {
        check.sentence("the shortest row of TARGETS .. each NEEDING the next");
        check.list(ListsTest.chain(2), "way(a0,a1)", 0, 1);
        check.list(ListsTest.chain(MOST), "way(a0,c8)", upTo(29));
        check.list(ListsTest.chain(MOST), "way(a0,c9)", upTo(MOST));
        check.list(ListsTest.chain(MOST), "way(c9,a0)");
        GraphQuery ring = ListsTest.chain(MOST);
        ring.needs(29, 0);
        check.list(ring, "way(c9,a1)", 29, 0, 1);
    }

    private void wayAfterWay() {
        check.sentence("way: .. each came by: in this way, not in one before");
        GraphQuery q = linked(3, 0, 1, 1, 2, 2, 0);
        check.list(q, "way(a2,a1)", 2, 0, 1);
        check.list(q, "way(a0,a2)", 0, 1, 2);
        check.list(q, "way(a1,a0)", 1, 2, 0);
        check.list(q, "way(a2,a1)+way(a0,a0)", 2, 0, 1);
        check.list(q, "way(a0,a0)", 0);
    }

    // As many LISTS that wait for another one as 80 characters can make.
    private void mostHeldBack() {
        check.sentence("a + b: a, then those of b: however long b takes");
        // had one of those that wait been lost, nothing would be left
        right("let A=c3 in " + "A&way(A,".repeat(5) + "A&(".repeat(4) + "A-(a1" + ")".repeat(10), 3);
        right("c3&way(c3,".repeat(3) + "c3&(".repeat(7) + "c3-(a1+a2" + ")".repeat(11), 3);
        right("all-way(d4,".repeat(5) + "d4" + ")".repeat(5), 0, 1, 2, 3, 5, 6, 7);
        right("all-way(d4,".repeat(6) + "d4" + ")".repeat(6), upTo(8));
        check.list(Check.loose(13), "a0+(a1+(a2+(a3+(a4+(a5+(a6+(a7+(a8+(a9+(b0+(b1+b2)))))))))))",
            upTo(13));
    }

    private void kind() {
        check.sentence("kind: those of the KIND");
        right("kind(0,all)", 0, 4);
        right("kind(1,all)", 1, 3);
        right("kind(2,all)", 2);
        right("kind(3,all)", 5, 6, 7);
        right("kind(4,all)");
        right("kind(99,all)");
        right("kind(03,all)", 5, 6, 7);
        right("kind(30,all)");
        right("kind(1,c3+a1+a2)", 3, 1);
        right("kind(0,a1-a1)");
        right("kind(0,c3)");
        check.list(new GraphQuery(), "kind(0,all)");
    }

    private void tests() {
        check.sentence("tests: those of KIND 3 .. or are one, by their numbers");
        right("tests(a1-a1)");
        right("tests(c8)", 7);
        right("tests(e0)", 6);
        right("tests(b9)", 5, 6);
        right("tests(c8+e0+b9)", 5, 6, 7);
        right("tests(all)", 5, 6, 7);
        GraphQuery q = new GraphQuery();
        for (int kind = 3; kind >= 0; kind--) {
            q.target(0, kind, kind);
        }
        q.target(1, 0, 2);
        for (int t = 0; t < 4; t++) {
            q.needs(t, 4);
        }
        check.list(q, "tests(b0)", 0);
        check.list(q, "tests(a2)");
        check.list(q, "tests(a3)", 0);
    }

    private void testsInTheEnd() {
        check.sentence("that NEED, in the end, one of the LIST");
        GraphQuery q = new GraphQuery();
        for (int i = 0; i < MOST; i++) {
            q.target(i / 10, i % 10, i == 0 || i == 28 ? 3 : 0);
        }
        for (int i = 0; i + 1 < MOST; i++) {
            q.needs(i, i + 1);
        }
        check.list(q, "tests(c9)", 0, 28);
        check.list(q, "tests(c8)", 0, 28);
        check.list(q, "tests(c7)", 0);
        check.list(q, "tests(a0)", 0);
        q.needs(28, 0);
        check.list(q, "tests(a0)", 0, 28);
        check.list(q, "tests(c9)", 0, 28);
    }

    private void same() {
        check.sentence("same: all TARGETS, by their numbers, that have the PACKAGE of one");
        right("same(a1-a1)");
        right("same(a1)", 0, 1);
        right("same(a2)", 0, 1);
        right("same(d4)", 4);
        right("same(c8+a2)", 0, 1, 3, 7);
        right("same(all)", upTo(8));
        GraphQuery q = new GraphQuery();
        int[][] targets = {{5, 9}, {0, 9}, {4, 9}, {1, 0}, {0, 0}, {5, 0}};
        for (int[] t : targets) {
            q.target(t[0], t[1], 0);
        }
        check.list(q, "same(a0)", 1, 4);
        check.list(q, "same(f0)", 0, 5);
        check.list(q, "same(f9)", 0, 5);
        check.list(q, "same(e9)", 2);
        check.list(q, "same(b0)", 3);
        check.list(q, "same(f9+a9)", 0, 1, 4, 5);
    }

    private void let() {
        check.sentence("let: the second SUM's, the LETTER being the first one's LIST");
        right("let A=a1-a1 in A");
        right("let A=a1-a1 in A+c3", 3);
        right("let A=all in A", upTo(8));
        right("let A=all in c3", 3);
        right("let A=c3+a1 in A", 3, 0);
        right("let A=c3 in deps(A)-A", 0, 2, 1, 4);
        right("let A=c3 in way(A,d4)+A", 3, 0, 2, 4);
        right("let A=c3+a1 in kind(1,A)+A", 3, 0);
        right("let A=c3+a1 in (A-c3)+A", 0, 3);
        right("let A=c3+a1 in (A&c3)+A", 3, 0);
        right("let A=c3 in same(A)-A+tests(A)", 7, 5, 6);
        check.list(Check.loose(MOST), "let A=all in A", upTo(MOST));
    }
}
