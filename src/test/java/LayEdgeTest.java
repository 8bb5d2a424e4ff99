/** The boundaries that the terms name for what is laid down, without the table and the limits. Bodies are of function 0. */
public final class LayEdgeTest {
    private static final String OTHERS = "; RET; RET; RET; RET; RET";

    public static void main(String[] args) {
        functionWithoutBody();
        oneFunctionAfterTheOther();
        firstDoneFirst();
        asLongAsThereAreAny();
        emptyIf();
        emptyWhile();
        apartIfItHasSome();
        jumpToE();
        returnWithNoneAround();
        returnFromTheInsideOut();
        returnInAFinally();
        breakWithinTheWhile();
        breakOutOfTheInnermost();
        breakInWhatIsApart();
        breakInAFinallyOfAReturn();
        placesOfKeep();
        placesInAFinally();
        breakInNoWhile();
        breakBesideAWhile();
        Check.end();
    }

    private static void laid(String what, Maker m, int statement, String code) {
        m.bodyOf(0, statement);
        int count = m.x.lay(false);
        Check.same(what, Check.code(m.x), code + OTHERS);
        Check.due(what + ": how many", count, code.split(";").length + 5);
    }

    private static void functionWithoutBody() {
        Check.sentence("then RET (RET alone for one without)");
        Maker m = new Maker();
        Check.due("six without", m.x.lay(false), 6);
        Check.same("six without", Check.code(m.x), "RET" + OTHERS);
        laid("a body that makes nothing", m, m.skip(), "RET");
        laid("a body that ends with a RETURN", m, m.leave(), "RET; RET");
        m.bodyOf(0, -1);
        m.bodyOf(5, m.call(1));
        m.x.lay(false);
        Check.same("the last one with a body", Check.code(m.x), "RET; RET; RET; RET; RET; CALL 1; RET");
    }

    private static void oneFunctionAfterTheOther() {
        Check.sentence("one row of INSTRUCTIONS for all functions, one after the other");
        Maker m = new Maker();
        int tried = m.attempt(m.call(3), -1, m.call(4));
        m.bodyOf(0, tried);
        m.bodyOf(1, tried);
        Check.due("lay", m.x.lay(false), 2 * 6 + 4);
        Check.same("what is apart stands before the next function", Check.code(m.x),
            "CALL 3; CALL 4; RET; KEEP 0; CALL 4; AGAIN 0; CALL 3; CALL 4; RET; KEEP 0; CALL 4; AGAIN 0; RET; RET; RET; RET");
        Check.due("the second begins behind it", m.x.entry(1), 6);
        Check.due("the third", m.x.entry(2), 12);
    }

    private static int storing(Maker m, int v, int a) {
        return m.attempt(a, m.taking(1, 1, v, m.skip()), -1);
    }

    private static void firstDoneFirst() {
        Check.sentence("then what its TRYs have APART, those of them first that were first done");
        Maker m = new Maker();
        int inner = storing(m, 1, m.call(0));
        int outer = storing(m, 2, inner);
        int next = storing(m, 3, m.call(0));
        laid("an inner one is done before the outer, both before the next", m, m.sequence(outer, next),
            "CALL 0; CALL 0; RET; STORE 1; JUMP 1; STORE 2; JUMP 1; STORE 3; JUMP 2");
        m = new Maker();
        int inFinally = storing(m, 1, m.call(0));
        laid("one in a finally is done before its TRY", m, m.attempt(m.skip(), -1, inFinally),
            "CALL 0; RET; STORE 1; JUMP 1; KEEP 0; CALL 0; AGAIN 0; STORE 1; JUMP 6");
    }

    private static void asLongAsThereAreAny() {
        Check.sentence("as long as there are any (also of TRYs that are laid down there)");
        Maker m = new Maker();
        int deep = m.skip();
        StringBuilder due = new StringBuilder("RET");
        for (int v = 7; v >= 0; v--) {
            deep = m.attempt(m.skip(), m.taking(1, 1, v, deep), -1);
        }
        // The TRY in a catch is at the JUMP behind that catch's STORE, and so is its E.
        for (int v = 0; v < 8; v++) {
            due.append("; STORE ").append(v).append("; JUMP ").append(2 * v);
        }
        laid("a TRY in a catch, eight times", m, deep, due.toString());
        m = new Maker();
        int none = m.skip();
        int first = m.attempt(none, m.taking(1, 1, 1, storing(m, 3, none)), -1);
        int second = storing(m, 2, none);
        laid("what is apart of what is apart comes behind all of the body", m, m.sequence(first, second),
            "RET; STORE 1; JUMP 0; STORE 2; JUMP 0; STORE 3; JUMP 2");
    }

    private static void emptyIf() {
        Check.sentence("IF: a, ZERO to L, b, JUMP to M, L: c, M");
        Maker m = new Maker();
        int none = m.skip();
        laid("nothing in either", m, m.choose(m.number(1), none, none), "PUSH 1; ZERO 3; JUMP 3; RET");
        laid("nothing in b", m, m.choose(m.number(1), none, m.call(0)), "PUSH 1; ZERO 3; JUMP 4; CALL 0; RET");
        laid("nothing in c", m, m.choose(m.number(1), m.call(0), none), "PUSH 1; ZERO 4; CALL 0; JUMP 4; RET");
        int inner = m.choose(m.number(2), none, none);
        laid("L and M of two at once", m, m.choose(m.number(1), inner, none),
            "PUSH 1; ZERO 6; PUSH 2; ZERO 5; JUMP 5; JUMP 6; RET");
    }

    private static void emptyWhile() {
        Check.sentence("WHILE: L: a, ZERO to M, b, JUMP to L, M");
        Maker m = new Maker();
        int empty = m.loop(m.number(1), m.skip());
        laid("nothing in it", m, empty, "PUSH 1; ZERO 3; JUMP 0; RET");
        laid("one in another", m, m.loop(m.number(2), empty), "PUSH 2; ZERO 6; PUSH 1; ZERO 5; JUMP 2; JUMP 0; RET");
        laid("one behind another", m, m.sequence(empty, empty),
            "PUSH 1; ZERO 3; JUMP 0; PUSH 1; ZERO 6; JUMP 3; RET");
    }

    private static void apartIfItHasSome() {
        Check.sentence("What it has APART (if it has catches or a finally)");
        Maker m = new Maker();
        int a = m.call(0);
        int c = m.taking(1, 1, 7, m.call(1));
        int f = m.call(2);
        laid("neither", m, m.attempt(a, -1, -1), "CALL 0; RET");
        laid("a catch", m, m.attempt(a, c, -1), "CALL 0; RET; STORE 7; CALL 1; JUMP 1");
        laid("a finally", m, m.attempt(a, -1, f), "CALL 0; CALL 2; RET; KEEP 0; CALL 2; AGAIN 0");
        laid("both", m, m.attempt(a, c, f),
            "CALL 0; CALL 2; RET; STORE 7; CALL 1; CALL 2; JUMP 2; KEEP 0; CALL 2; AGAIN 0");
        int none = m.skip();
        laid("a finally that makes nothing", m, m.attempt(none, -1, none), "RET; KEEP 0; AGAIN 0");
        laid("a catch that makes nothing", m, m.attempt(none, m.taking(1, 1, 0, none), -1), "RET; STORE 0; JUMP 0");
    }

    private static void jumpToE() {
        Check.sentence("TRY: a, and its finally, if it has one, E");
        Maker m = new Maker();
        int c = m.taking(1, 1, 0, m.skip());
        int last = m.takingBehind(2, 2, 1, m.skip(), c);
        int behind = m.call(5);
        laid("E is behind the finally", m, m.sequence(m.attempt(m.call(0), last, m.call(2)), behind),
            "CALL 0; CALL 2; CALL 5; RET; STORE 0; CALL 2; JUMP 2; STORE 1; CALL 2; JUMP 2; KEEP 0; CALL 2; AGAIN 0");
        laid("E is behind a without one", m, m.sequence(m.attempt(m.call(0), last, -1), behind),
            "CALL 0; CALL 5; RET; STORE 0; JUMP 1; STORE 1; JUMP 1");
    }

    private static void returnWithNoneAround() {
        Check.sentence("RETURN: the finallies of the TRYs around it, from the inside out, then RET.");
        Maker m = new Maker();
        int back = m.leave();
        int f = m.call(2);
        laid("no TRY", m, m.sequence(back, m.call(0)), "RET; CALL 0; RET");
        laid("a TRY of nothing", m, m.attempt(back, -1, -1), "RET; RET");
        laid("a TRY with a catch", m, m.attempt(back, m.taking(1, 1, 0, back), -1), "RET; RET; STORE 0; RET; JUMP 1");
        laid("before a TRY", m, m.sequence(back, m.attempt(m.call(0), -1, f)),
            "RET; CALL 0; CALL 2; RET; KEEP 0; CALL 2; AGAIN 0");
        laid("behind a TRY", m, m.sequence(m.attempt(m.call(0), -1, f), back),
            "CALL 0; CALL 2; RET; RET; KEEP 0; CALL 2; AGAIN 0");
        laid("in a TRY", m, m.attempt(back, -1, f), "CALL 2; RET; CALL 2; RET; KEEP 0; CALL 2; AGAIN 0");
        laid("in its catch", m, m.attempt(m.call(0), m.taking(1, 1, 0, back), f),
            "CALL 0; CALL 2; RET; STORE 0; CALL 2; RET; CALL 2; JUMP 2; KEEP 0; CALL 2; AGAIN 0");
    }

    private static void returnFromTheInsideOut() {
        Check.sentence("the finallies of the TRYs around it, from the inside out");
        Maker m = new Maker();
        int all = m.leave();
        StringBuilder finallies = new StringBuilder();
        for (int f = 1; f <= 4; f++) {
            all = m.attempt(all, -1, m.call(f));
            finallies.append("CALL ").append(f).append("; ");
        }
        m.bodyOf(0, all);
        m.x.lay(false);
        Check.same("four of them", Check.code(m.x).startsWith(finallies + "RET; " + finallies + "RET; KEEP 3; CALL 1; AGAIN 3")
            ? "" : Check.code(m.x), "");
        m = new Maker();
        int inner = m.attempt(m.leave(), -1, m.call(1));
        int middle = m.attempt(inner, m.taking(1, 1, 0, m.skip()), -1);
        laid("one without a finally between two with", m, m.attempt(middle, -1, m.call(2)),
            "CALL 1; CALL 2; RET; CALL 1; CALL 2; RET; KEEP 1; CALL 1; AGAIN 1; STORE 0; JUMP 4; KEEP 0; CALL 2; AGAIN 0");
    }

    private static void returnInAFinally() {
        Check.sentence("Such a finally has around it, and is in, what its TRY has around it and is in");
        Maker m = new Maker();
        laid("its own TRY is not around it", m, m.attempt(m.call(0), -1, m.leave()),
            "CALL 0; RET; RET; KEEP 0; RET; AGAIN 0");
        laid("nor where a RETURN lays it down", m, m.attempt(m.leave(), -1, m.leave()),
            "RET; RET; RET; RET; KEEP 0; RET; AGAIN 0");
        int inner = m.attempt(m.leave(), -1, m.leave());
        laid("the outer one is", m, m.attempt(inner, -1, m.call(2)),
            "CALL 2; RET; CALL 2; RET; CALL 2; RET; CALL 2; RET; KEEP 1; CALL 2; RET; AGAIN 1; KEEP 0; CALL 2; AGAIN 0");
    }

    private static void breakWithinTheWhile() {
        Check.sentence("BREAK: those of the TRYs around it within the innermost WHILE that it is in");
        Maker m = new Maker();
        int one = m.number(1);
        int stop = m.stop();
        int f = m.call(2);
        laid("no TRY", m, m.loop(one, stop), "PUSH 1; ZERO 4; JUMP 4; JUMP 0; RET");
        laid("a TRY just in the WHILE", m, m.loop(one, m.attempt(stop, -1, f)),
            "PUSH 1; ZERO 6; CALL 2; JUMP 6; CALL 2; JUMP 0; RET; KEEP 0; CALL 2; AGAIN 0");
        laid("a TRY just around the WHILE", m, m.attempt(m.loop(one, stop), -1, f),
            "PUSH 1; ZERO 4; JUMP 4; JUMP 0; CALL 2; RET; KEEP 0; CALL 2; AGAIN 0");
        int twice = m.attempt(m.attempt(stop, -1, m.call(1)), -1, f);
        laid("two in the WHILE, from the inside out", m, m.loop(one, twice),
            "PUSH 1; ZERO 8; CALL 1; CALL 2; JUMP 8; CALL 1; CALL 2; JUMP 0; RET; "
                + "KEEP 1; CALL 1; AGAIN 1; KEEP 0; CALL 2; AGAIN 0");
    }

    private static void breakOutOfTheInnermost() {
        Check.sentence("then JUMP to behind that WHILE");
        Maker m = new Maker();
        int one = m.number(1);
        int stop = m.stop();
        int inner = m.loop(m.number(2), stop);
        laid("the inner one", m, m.loop(one, inner),
            "PUSH 1; ZERO 7; PUSH 2; ZERO 6; JUMP 6; JUMP 2; JUMP 0; RET");
        laid("before and behind the inner one", m, m.loop(one, m.sequence(stop, inner, stop)),
            "PUSH 1; ZERO 9; JUMP 9; PUSH 2; ZERO 7; JUMP 7; JUMP 3; JUMP 9; JUMP 0; RET");
        laid("a TRY between the two WHILEs is not left", m, m.loop(one, m.attempt(inner, -1, m.call(2))),
            "PUSH 1; ZERO 8; PUSH 2; ZERO 6; JUMP 6; JUMP 2; CALL 2; JUMP 0; RET; KEEP 0; CALL 2; AGAIN 0");
    }

    private static void breakInWhatIsApart() {
        Check.sentence("(in the WHILE's b, also in what is APART there)");
        Maker m = new Maker();
        int one = m.number(1);
        int stop = m.stop();
        laid("in a catch", m, m.loop(one, m.attempt(m.call(0), m.taking(1, 1, 0, stop), -1)),
            "PUSH 1; ZERO 4; CALL 0; JUMP 0; RET; STORE 0; JUMP 4; JUMP 3");
        laid("in a finally", m, m.loop(one, m.attempt(m.call(0), -1, stop)),
            "PUSH 1; ZERO 5; CALL 0; JUMP 5; JUMP 0; RET; KEEP 0; JUMP 5; AGAIN 0");
        laid("in a catch's own WHILE", m, m.loop(one, m.attempt(m.call(0), m.taking(1, 1, 0, m.loop(one, stop)), -1)),
            "PUSH 1; ZERO 4; CALL 0; JUMP 0; RET; STORE 0; PUSH 1; ZERO 10; JUMP 10; JUMP 6; JUMP 3");
        int inCatch = m.attempt(m.call(3), m.taking(2, 2, 1, stop), -1);
        laid("in a catch in a catch", m, m.loop(one, m.attempt(m.call(0), m.taking(1, 1, 0, inCatch), -1)),
            "PUSH 1; ZERO 4; CALL 0; JUMP 0; RET; STORE 0; CALL 3; JUMP 3; STORE 1; JUMP 4; JUMP 7");
    }

    /** The inner WHILE is about the RETURN, not about the finally that it lays down. */
    private static void breakInAFinallyOfAReturn() {
        Check.sentence("Such a finally .. is in, what its TRY .. is in");
        Maker m = new Maker();
        int inner = m.loop(m.number(2), m.leave());
        laid("the outer WHILE is left", m, m.loop(m.number(1), m.attempt(inner, -1, m.stop())),
            "PUSH 1; ZERO 9; PUSH 2; ZERO 7; JUMP 9; RET; JUMP 2; JUMP 9; JUMP 0; RET; KEEP 0; JUMP 9; AGAIN 0");
        m = new Maker();
        inner = m.loop(m.number(2), m.leave());
        m.bodyOf(0, m.attempt(inner, -1, m.stop()));
        Check.due("no WHILE is about the TRY", m.x.lay(false), -3);
    }

    private static void deepest(String what, Maker m, int statement, int due) {
        m.bodyOf(0, statement);
        m.x.lay(false);
        Check.due(what, m.x.laid(3), due);
    }

    private static void placesOfKeep() {
        Check.sentence("k is how many TRYs with a finally are over the TRY.");
        Maker m = new Maker();
        int none = m.skip();
        int c = m.taking(1, 1, 0, none);
        int tried = m.attempt(none, -1, none);
        deepest("none with a finally", m, m.attempt(none, c, -1), -1);
        deepest("none over it", m, tried, 0);
        deepest("one beside it", m, m.sequence(tried, tried), 0);
        deepest("one without a finally over it", m, m.attempt(tried, c, -1), 0);
        deepest("one of nothing over it", m, m.attempt(tried, -1, -1), 0);
        deepest("one over it", m, m.attempt(tried, -1, none), 1);
        deepest("one over it and one of nothing between", m, m.attempt(m.attempt(tried, -1, -1), -1, none), 1);
        deepest("it is in the catch of one without a finally", m, m.attempt(none, m.taking(1, 1, 0, tried), -1), 0);
        deepest("it is in the catch of one with a finally", m, m.attempt(none, m.taking(1, 1, 0, tried), none), 1);
        m = new Maker();
        none = m.skip();
        int all = none;
        for (int i = 0; i < 149; i++) {
            all = m.attempt(all, -1, none);
        }
        deepest("as many as there can be", m, all, 148);
    }

    private static void placesInAFinally() {
        Check.sentence("A TRY is OVER what it is around, and its finallies.");
        Maker m = new Maker();
        int none = m.skip();
        int tried = m.attempt(none, -1, none);
        laid("one in a finally", m, m.attempt(none, -1, tried), "RET; KEEP 1; AGAIN 1; KEEP 0; AGAIN 0; KEEP 1; AGAIN 1");
        int inner = m.attempt(m.leave(), -1, none);
        laid("where a RETURN lays it down the inner TRY is not over it", m, m.attempt(inner, -1, tried),
            "RET; RET; KEEP 1; AGAIN 1; KEEP 1; AGAIN 1; KEEP 1; AGAIN 1; KEEP 0; AGAIN 0; KEEP 1; AGAIN 1");
    }

    /** A BREAK in each place where a statement may stand; none of them is a WHILE's b. */
    private static int around(Maker m, int which, int statement) {
        int none = m.skip();
        switch (which) {
            case 0:
                return statement;
            case 1:
                return m.sequence(statement, none);
            case 2:
                return m.sequence(none, statement);
            case 3:
                return m.choose(m.number(1), statement, none);
            case 4:
                return m.choose(m.number(1), none, statement);
            case 5:
                return m.attempt(statement, -1, -1);
            case 6:
                return m.attempt(statement, -1, none);
            case 7:
                return m.attempt(none, -1, statement);
            case 8:
                return m.attempt(none, m.taking(1, 1, 0, statement), -1);
            case 9:
                return m.attempt(none, m.taking(1, 1, 0, statement), none);
            default:
                return m.attempt(none, m.takingBehind(1, 1, 0, statement, m.taking(1, 1, 0, none)), -1);
        }
    }

    private static void breakInNoWhile() {
        Check.sentence("A BREAK that is in no WHILE is ILL.");
        for (int which = 0; which <= 10; which++) {
            for (int outer = 0; outer <= 10; outer++) {
                Maker m = new Maker();
                int all = around(m, outer, around(m, which, m.stop()));
                m.bodyOf(0, all);
                Check.due("in no WHILE, place " + which + " in " + outer, m.x.lay(false), -3);
                m.bodyOf(0, m.loop(m.number(1), all));
                Check.due("in a WHILE, place " + which + " in " + outer, m.x.lay(false) > 0, true);
                m = new Maker();
                int loop = around(m, outer, m.loop(m.number(1), around(m, which, m.stop())));
                m.bodyOf(5, loop);
                Check.due("a WHILE between", m.x.lay(false) > 0, true);
            }
        }
    }

    private static void breakBesideAWhile() {
        Check.sentence("A BREAK that is in no WHILE is ILL.");
        Maker m = new Maker();
        int stop = m.stop();
        int none = m.skip();
        int loop = m.loop(m.number(1), stop);
        int[] ill = {m.sequence(loop, stop), m.sequence(stop, loop), m.attempt(loop, -1, stop),
            m.attempt(loop, m.taking(1, 1, 0, stop), -1), m.attempt(stop, -1, loop),
            m.attempt(stop, m.taking(1, 1, 0, loop), -1), m.choose(m.number(0), loop, stop)};
        for (int statement : ill) {
            m.bodyOf(0, statement);
            Check.due("beside a WHILE, node " + statement, m.x.lay(false), -3);
        }
        m.bodyOf(0, loop);
        Check.due("in it", m.x.lay(false) > 0, true);
        m.bodyOf(1, m.loop(m.number(1), m.call(2)));
        m.bodyOf(2, stop);
        Check.due("in a function that a WHILE calls", m.x.lay(false), -3);
        m.bodyOf(2, none);
        Check.due("in no body", m.x.lay(false) > 0, true);
        m.bodyOf(5, stop);
        Check.due("in the last function", m.x.lay(false), -3);
    }
}
