/** Of promise 6 the UNKNOWN NAMES, and promise 8: nearest. */
public final class UnknownTest {
    public static void main(String[] args) {
        Check check = new Check();
        places(check);
        byDigit(check);
        byPackage(check);
        latest(check);
        check.end("UnknownTest");
    }

    private static void places(Check check) {
        GraphQuery q = Check.sample();
        check.unknown(q, "f9", 0);
        check.unknown(q, "  f9", 2);
        check.unknown(q, "a1+a3+f9", 3);
        check.unknown(q, "a1-(a1&deps(f9))", 12);
        check.unknown(q, "let A=f9 in a1", 6);
        check.unknown(q, "let A=a1 in way(A,f0)", 18);
        check.unknown(q, " ".repeat(78) + "f9", 78);
        check.same("work", q.work(), 0);
        check.same("answer(0)", q.answer(0), -1);
    }

    private static void byDigit(Check check) {
        GraphQuery q = new GraphQuery();
        q.target(2, 8, 0);
        q.target(2, 2, 0);
        q.target(3, 5, 0);
        check.unknown(q, "c5", 0);
        check.same("like ones: the lesser digit", q.nearest(), 1);
        check.unknown(q, "c6", 0);
        check.same("c6", q.nearest(), 0);
        check.unknown(q, "c9", 0);
        check.same("c9", q.nearest(), 0);
        check.unknown(q, "c0", 0);
        check.same("c0", q.nearest(), 1);
        check.unknown(q, "d9", 0);
        check.same("d9", q.nearest(), 2);
        q.target(3, 9, 0);
        check.same("as by now: it is there itself", q.nearest(), 3);
        q.target(4, 9, 0);
        q.target(4, 0, 0);
        check.unknown(q, "e8", 0);
        check.same("e8", q.nearest(), 4);
        check.unknown(q, "e1", 0);
        check.same("e1", q.nearest(), 5);
    }

    private static void byPackage(Check check) {
        GraphQuery q = new GraphQuery();
        q.target(4, 5, 0);
        q.target(0, 5, 0);
        q.target(1, 6, 0);
        check.unknown(q, "c5", 0);
        check.same("like ones: the lesser PACKAGE", q.nearest(), 1);
        check.unknown(q, "d5", 0);
        check.same("d5", q.nearest(), 0);
        check.unknown(q, "f5", 0);
        check.same("f5", q.nearest(), 0);
        check.unknown(q, "f6", 0);
        check.same("f6", q.nearest(), 2);
        check.unknown(q, "f7", 0);
        check.same("neither the PACKAGE nor the digit", q.nearest(), -1);
        q.target(0, 7, 0);
        check.same("as by now", q.nearest(), 3);
        q.target(5, 0, 0);
        check.same("the PACKAGE goes before the digit", q.nearest(), 4);
    }

    private static void latest(Check check) {
        GraphQuery q = Check.sample();
        check.same("no such ask", q.nearest(), -1);
        check.ill(q, "f9+", 3);
        check.same("an ILL text tells no UNKNOWN NAME", q.nearest(), -1);
        check.unknown(q, "b7+a4", 0);
        check.same("the first one counts", q.nearest(), 5);
        check.list(q, "a1", 0);
        check.ill(q, "a4+", 3);
        check.same("later asks without one leave it", q.nearest(), 5);
        check.unknown(q, "a1+a4", 3);
        check.same("the latest", q.nearest(), 1);
    }
}
