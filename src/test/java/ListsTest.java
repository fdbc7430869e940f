/** Promises 6 and 7: what each part of a text gives, and the ANSWER. */
public final class ListsTest {
    public static void main(String[] args) {
        Check check = new Check();
        joins(check);
        rounds(check);
        ways(check);
        waysByFirst(check);
        picks(check);
        lets(check);
        deepStack(check);
        answers(check);
        check.end("ListsTest");
    }

    private static void joins(Check check) {
        GraphQuery q = Check.sample();
        check.list(q, "c3", 3);
        check.list(q, "all", 0, 1, 2, 3, 4, 5, 6, 7);
        check.list(q, "c3+a1", 3, 0);
        check.list(q, "c3+a1+c3", 3, 0);
        check.list(q, "c3+a1-c3", 0);
        check.list(q, "a1-c3+c3", 0, 3);
        check.list(q, "a1-a1");
        check.list(q, "(c3+b2+a1)&(a1+c3)", 3, 0);
        check.list(q, "a1+b2&b2", 2);
        check.list(q, "a1+(b2&b2)", 0, 2);
        check.list(q, "a1-(b2-b2)", 0);
        check.list(q, "all-a1-c8", 1, 2, 3, 4, 5, 6);
        check.list(q, "a1&b2");
    }

    private static void rounds(Check check) {
        GraphQuery q = Check.sample();
        check.list(q, "deps(a1)", 0, 2, 1, 3, 4);
        check.list(q, "deps(a1,0)", 0);
        check.list(q, "deps(a1,1)", 0, 2, 1);
        check.list(q, "deps(a1,2)", 0, 2, 1, 3, 4);
        check.list(q, "deps(a1,99)", 0, 2, 1, 3, 4);
        check.list(q, "deps(c8)", 7);
        check.list(q, "deps(d4)", 4);
        check.list(q, "deps(a2+b2,1)", 1, 2, 3, 4);
        check.list(q, "deps(a1-a1)");
        check.list(q, "users(c3)", 3, 1, 2, 0, 5, 6);
        check.list(q, "users(c3,1)", 3, 1, 2);
        check.list(q, "users(c3,2)", 3, 1, 2, 0, 5);
        check.list(q, "users(c3,0)", 3);
        check.list(q, "users(b9+d4,1)", 5, 4, 6, 2);
        q = Check.sample();
        check.list(q, "users(c8)", 7);
        GraphQuery chain = chain(30);
        check.same("deps of a chain", Check.ask(chain, "deps(a0)"), 30);
        check.same("its last", chain.answer(29), 29);
        check.same("28 rounds", Check.ask(chain, "deps(a0,28)"), 29);
        check.same("29 rounds", Check.ask(chain, "deps(a0,29)"), 30);
        check.same("users of a chain", Check.ask(chain, "users(c9)"), 30);
        check.same("its first", chain.answer(29), 0);
        check.same("28 rounds back", Check.ask(chain, "users(c9,28)"), 29);
        check.same("a way along a chain", Check.ask(chain, "way(a0,c9)"), 30);
        check.same("its end", chain.answer(29), 29);
    }

    /** Each NEEDS the next; its NAMES go a0, a1, .. a9, b0, .. */
    static GraphQuery chain(int size) {
        GraphQuery q = new GraphQuery();
        for (int i = 0; i < size; i++) {
            q.target(i / 10, i % 10, i % 4);
        }
        for (int i = 0; i + 1 < size; i++) {
            q.needs(i, i + 1);
        }
        return q;
    }

    private static void ways(Check check) {
        GraphQuery q = Check.sample();
        check.list(q, "way(a1,d4)", 0, 2, 4);
        check.list(q, "way(a1,c3)", 0, 2, 3);
        check.list(q, "way(e0,d4)", 6, 5, 1, 3, 0, 2, 4);
        check.list(q, "way(a1,a1)", 0);
        check.list(q, "way(d4,a1)");
        check.list(q, "way(a1,c8)");
        check.list(q, "way(a1-a1,a1)");
        check.list(q, "way(a1,a1-a1)");
        check.list(q, "way(c8+e0+a2,a1)", 1, 3, 0);
        check.list(q, "way(e0+b9,b9+e0)", 6);
        check.list(q, "way(a1,c3+d4)", 0, 2, 3);
        check.list(q, "way(a1,a2+b2)", 0, 2);
        check.list(q, "deps(way(a1,d4)-a1,1)", 2, 4, 3);
    }

    // Two ways of like length: the first of the first LIST brings what both NEED.
    private static void waysByFirst(Check check) {
        GraphQuery q = new GraphQuery();
        for (int i = 0; i < 6; i++) {
            q.target(0, i, 0);
        }
        int[][] needs = {{0, 2}, {1, 2}, {1, 3}, {2, 4}, {3, 4}, {3, 5}};
        for (int[] n : needs) {
            q.needs(n[0], n[1]);
        }
        check.list(q, "way(a0+a1,a4)", 0, 2, 4);
        check.list(q, "way(a1+a0,a4)", 1, 2, 4);
        check.list(q, "way(a0+a1,a4+a5)", 0, 2, 4);
        check.list(q, "way(a0+a1,a5+a3)", 1, 3);
        check.list(q, "way(a1,a5+a4)", 1, 2, 4);
    }

    private static void picks(Check check) {
        GraphQuery q = Check.sample();
        check.list(q, "kind(1,c3+a1+a2)", 3, 1);
        check.list(q, "kind(0,all)", 0, 4);
        check.list(q, "kind(3,all)", 5, 6, 7);
        check.list(q, "kind(4,all)");
        check.list(q, "kind(99,all)");
        check.list(q, "kind(03,c8)", 7);
        check.list(q, "tests(a2)", 5, 6);
        check.list(q, "tests(d4)", 5, 6);
        check.list(q, "tests(e0)", 6);
        check.list(q, "tests(c8+e0)", 6, 7);
        check.list(q, "tests(c8-c8)");
        check.list(q, "same(b9)", 2, 5);
        q = Check.sample();
        check.list(q, "same(c8+a2)", 0, 1, 3, 7);
        check.list(q, "same(d4+d4-d4)");
        check.list(q, "same(all)-b2", 0, 1, 3, 4, 5, 6, 7);
        check.list(q, "tests(users(b2,0)+c8)", 5, 6, 7);
    }

    private static void lets(Check check) {
        GraphQuery q = Check.sample();
        check.list(q, "let A=c3+a1 in A", 3, 0);
        check.list(q, "let A=c3+a1 in A-c3+b2", 0, 2);
        check.list(q, "b2+let A=a1 in A-b2", 2, 0);
        check.list(q, "let A=a1 in let A=A+b2 in A", 0, 2);
        check.list(q, "let A=a1 in (let A=b2 in A)+A", 2, 0);
        check.list(q, "let A=a1 in let B=b2 in B+A", 2, 0);
        check.list(q, "let A=(let B=a1 in B+b2) in A-a1", 2);
        check.list(q, "let A=a1 in (let B=b2 in B)+(let C=c3 in C+A)", 2, 3, 0);
        check.list(q, "let A=let B=a1 in B in deps(A,1)", 0, 2, 1);
        check.list(q, "let A=a1 in c3", 3);
        check.list(q, "let Z=a1 in deps(Z,1)-Z", 2, 1);
        q = Check.sample();
        // what is done with a LETTER's LIST leaves that LIST alone
        check.list(q, "let A=a1 in deps(A)&A+A", 0);
        check.list(q, "let A=a1 in let B=A in deps(B,1)-A-B", 2, 1);
    }

    // Holds back as many LISTS at once as eighty characters can make it hold.
    private static void deepStack(Check check) {
        GraphQuery q = Check.sample();
        check.list(q, "a1+way(a2,".repeat(7) + "c3" + ")".repeat(7), 0, 1);
        check.list(q, "all-way(a1,".repeat(6) + "d4" + ")".repeat(6), 2, 3, 4, 5, 6, 7);
        check.list(q, "a1+(".repeat(11) + "c8" + ")".repeat(11), 0, 7);
    }

    private static void answers(Check check) {
        GraphQuery q = Check.sample();
        check.list(q, "b2+a1", 2, 0);
        int[] none = {-1, 2, 30, Integer.MIN_VALUE, Integer.MAX_VALUE};
        for (int n : none) {
            check.same("answer(" + n + ")", q.answer(n), -1);
        }
        check.unknown(q, "all+f9", 4);
        check.same("answer(0)", q.answer(0), 2);
        check.same("answer(1)", q.answer(1), 0);
        q.target(5, 9, 0);
        q.needs(2, 7);
        check.same("answer(0) after the graph grew", q.answer(0), 2);
        check.list(q, "f9", 8);
        check.list(q, "a1-a1");
        check.same("answer(0) of nothing", q.answer(0), -1);
        check.ill(q, "", 0);
    }
}
