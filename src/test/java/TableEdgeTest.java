/** The boundaries that the terms name for the table, and promise 9. Bodies are of function 0. */
public final class TableEdgeTest {
    private static final int MIN = Integer.MIN_VALUE;
    private static final int MAX = Integer.MAX_VALUE;
    private static final String OTHERS = "; RET; RET; RET; RET; RET";

    public static void main(String[] args) {
        aroundItsA();
        notAroundItsFinallies();
        aroundItsCatches();
        othersAround();
        finallyOfAReturn();
        retBehindFinallies();
        retWithoutFinallies();
        jumpOfABreak();
        mostOverFirst();
        whilesDoNotCount();
        begunFirst();
        catchesThenFinally();
        longestStretches();
        catchOfItsAAlone();
        nothingMade();
        allInts();
        codesAsTheyAre();
        endsWithAFunction();
        endsWithTheLastFunction();
        rowsThereAre();
        whatOfARow();
        rowsWhenThereAreNone();
        Check.end();
    }

    private static void laid(String what, Maker m, int statement, String code, String table) {
        m.bodyOf(0, statement);
        m.x.lay(false);
        Check.same(what, Check.code(m.x), code + OTHERS);
        Check.same(what + ": table", Check.table(m.x), table);
        Check.due(what + ": rows", m.x.laid(1), table.isEmpty() ? 0 : table.split(";").length);
    }

    private static void aroundItsA() {
        Check.sentence("a TRY is around what its a .. make");
        Maker m = new Maker();
        int c = m.taking(4, 5, 0, m.skip());
        int before = m.call(1);
        int behind = m.call(2);
        laid("not what is before and behind", m, m.sequence(before, m.attempt(m.call(0), c, -1), behind),
            "CALL 1; CALL 0; CALL 2; RET; STORE 0; JUMP 2", "1..2 to 4 of 4-5");
        laid("all of its a", m, m.sequence(before, m.attempt(m.putNumber(7), c, -1), behind),
            "CALL 1; PUSH 7; PUT; CALL 2; RET; STORE 0; JUMP 3", "1..3 to 5 of 4-5");
        laid("a WHILE and its JUMP", m, m.attempt(m.loop(m.number(1), m.call(0)), c, -1),
            "PUSH 1; ZERO 4; CALL 0; JUMP 0; RET; STORE 0; JUMP 4", "0..4 to 5 of 4-5");
        laid("an IF and its JUMP", m, m.attempt(m.choose(m.number(1), m.skip(), m.skip()), c, -1),
            "PUSH 1; ZERO 3; JUMP 3; RET; STORE 0; JUMP 3", "0..3 to 4 of 4-5");
    }

    private static void notAroundItsFinallies() {
        Check.sentence("but not around its finallies, the JUMPs to E, KEEP and AGAIN");
        Maker m = new Maker();
        int f = m.call(2);
        laid("a finally", m, m.attempt(m.call(0), -1, f),
            "CALL 0; CALL 2; RET; KEEP 0; CALL 2; AGAIN 0", "0..1 to 3 of *");
        laid("a catch and a finally", m, m.attempt(m.call(0), m.taking(4, 5, 0, m.call(1)), f),
            "CALL 0; CALL 2; RET; STORE 0; CALL 1; CALL 2; JUMP 2; KEEP 0; CALL 2; AGAIN 0",
            "0..1 to 3 of 4-5; 0..1 to 7 of *; 3..5 to 7 of *");
        int none = m.skip();
        laid("a finally that makes nothing", m, m.attempt(m.call(0), m.taking(4, 5, 0, none), none),
            "CALL 0; RET; STORE 0; JUMP 1; KEEP 0; AGAIN 0", "0..1 to 2 of 4-5; 0..1 to 4 of *; 2..3 to 4 of *");
    }

    private static void aroundItsCatches() {
        Check.sentence("a TRY is around what .. its catches (STORE, d) make");
        Maker m = new Maker();
        int none = m.skip();
        int first = m.taking(4, 5, 0, none);
        int second = m.takingBehind(6, 7, 1, m.call(1), first);
        laid("each STORE and d, not the JUMPs between", m, m.attempt(m.call(0), second, none),
            "CALL 0; RET; STORE 0; JUMP 1; STORE 1; CALL 1; JUMP 1; KEEP 0; AGAIN 0",
            "0..1 to 2 of 4-5; 0..1 to 4 of 6-7; 0..1 to 7 of *; 2..3 to 7 of *; 4..6 to 7 of *");
        laid("a STORE with nothing before it that could throw", m, m.attempt(none, first, none),
            "RET; STORE 0; JUMP 0; KEEP 0; AGAIN 0", "1..2 to 3 of *");
    }

    private static void othersAround() {
        Check.sentence("where a TRY itself has others around it, all that it makes has these around it");
        Maker m = new Maker();
        int inner = m.attempt(m.call(0), m.taking(4, 5, 0, m.call(1)), m.call(2));
        laid("finallies, JUMP, KEEP and AGAIN of an inner one", m, m.attempt(inner, m.taking(8, 9, 7, m.skip()), -1),
            "CALL 0; CALL 2; RET; STORE 0; CALL 1; CALL 2; JUMP 2; KEEP 0; CALL 2; AGAIN 0; STORE 7; JUMP 2",
            "0..1 to 3 of 4-5; 0..1 to 7 of *; 3..5 to 7 of *; 0..2 to 10 of 8-9; 3..10 to 10 of 8-9");
        m = new Maker();
        inner = m.attempt(m.call(0), -1, m.call(2));
        laid("of one in a catch: its finally, too", m, m.attempt(m.call(3), m.taking(4, 5, 0, inner), m.skip()),
            "CALL 3; RET; STORE 0; CALL 0; CALL 2; JUMP 1; KEEP 0; AGAIN 0; KEEP 1; CALL 2; AGAIN 1",
            "3..4 to 8 of *; 0..1 to 2 of 4-5; 0..1 to 6 of *; 2..5 to 6 of *; 8..11 to 6 of *");
        m = new Maker();
        inner = m.attempt(m.call(0), -1, m.call(2));
        laid("of one in a finally nothing", m, m.attempt(m.call(3), -1, inner),
            "CALL 3; CALL 0; CALL 2; RET; KEEP 1; CALL 2; AGAIN 1; KEEP 0; CALL 0; CALL 2; AGAIN 0; KEEP 1; CALL 2; AGAIN 1",
            "1..2 to 4 of *; 8..9 to 11 of *; 0..1 to 7 of *");
    }

    private static void finallyOfAReturn() {
        Check.sentence("Such a finally has around it .. what its TRY has around it");
        Maker m = new Maker();
        int inner = m.attempt(m.sequence(m.call(0), m.leave()), -1, m.call(1));
        laid("the inner finally has the outer TRY around it, the outer none", m, m.attempt(inner, -1, m.call(2)),
            "CALL 0; CALL 1; CALL 2; RET; CALL 1; CALL 2; RET; KEEP 1; CALL 1; AGAIN 1; KEEP 0; CALL 2; AGAIN 0",
            "0..1 to 7 of *; 0..2 to 10 of *; 4..5 to 10 of *; 7..10 to 10 of *");
    }

    private static void retBehindFinallies() {
        Check.sentence("the RET or JUMP what the last of those TRYs has around it");
        Maker m = new Maker();
        int none = m.skip();
        laid("a TRY with a finally is not around the RET", m, m.attempt(m.sequence(m.call(0), m.leave(), m.call(1)), -1, none),
            "CALL 0; RET; CALL 1; RET; KEEP 0; AGAIN 0", "0..1 to 4 of *; 2..3 to 4 of *");
        int inner = m.attempt(m.sequence(m.call(0), m.leave(), m.call(1)), -1, none);
        laid("one with catches around that one is", m, m.attempt(inner, m.taking(4, 5, 0, none), -1),
            "CALL 0; RET; CALL 1; RET; KEEP 0; AGAIN 0; STORE 0; JUMP 3",
            "0..1 to 4 of *; 2..3 to 4 of *; 0..3 to 6 of 4-5; 4..6 to 6 of 4-5");
        int caught = m.attempt(m.sequence(m.call(0), m.leave(), m.call(1)), m.taking(4, 5, 0, none), -1);
        laid("one with catches in that one is not", m, m.attempt(caught, -1, none),
            "CALL 0; RET; CALL 1; RET; STORE 0; JUMP 3; KEEP 0; AGAIN 0",
            "0..1 to 4 of 4-5; 2..3 to 4 of 4-5; 0..1 to 6 of *; 2..3 to 6 of *; 4..6 to 6 of *");
    }

    private static void retWithoutFinallies() {
        Check.sentence("or, if none has a finally, what the RETURN or BREAK has");
        Maker m = new Maker();
        int none = m.skip();
        laid("the TRYs stay around the RET", m,
            m.attempt(m.sequence(m.call(0), m.leave(), m.call(1)), m.taking(4, 5, 0, none), -1),
            "CALL 0; RET; CALL 1; RET; STORE 0; JUMP 3", "0..3 to 4 of 4-5");
        laid("and around the JUMP", m,
            m.loop(m.number(1), m.attempt(m.sequence(m.call(0), m.stop(), m.call(1)), m.taking(4, 5, 0, none), -1)),
            "PUSH 1; ZERO 6; CALL 0; JUMP 6; CALL 1; JUMP 0; RET; STORE 0; JUMP 5", "2..5 to 7 of 4-5");
    }

    private static void jumpOfABreak() {
        Check.sentence("the RET or JUMP what the last of those TRYs has around it");
        Maker m = new Maker();
        int inner = m.attempt(m.sequence(m.call(0), m.stop(), m.call(1)), -1, m.skip());
        laid("a TRY in the WHILE is not around the JUMP, one around the WHILE is", m,
            m.attempt(m.loop(m.number(1), inner), -1, m.skip()),
            "PUSH 1; ZERO 6; CALL 0; JUMP 6; CALL 1; JUMP 0; RET; KEEP 1; AGAIN 1; KEEP 0; AGAIN 0",
            "2..3 to 7 of *; 4..5 to 7 of *; 0..6 to 9 of *; 7..9 to 9 of *");
        m = new Maker();
        inner = m.attempt(m.sequence(m.call(0), m.stop()), -1, m.skip());
        int caught = m.attempt(inner, m.taking(4, 5, 0, m.skip()), -1);
        laid("one with catches alone further out stays around it", m, m.loop(m.number(1), caught),
            "PUSH 1; ZERO 5; CALL 0; JUMP 5; JUMP 0; RET; KEEP 0; AGAIN 0; STORE 0; JUMP 4",
            "2..3 to 6 of *; 2..4 to 8 of 4-5; 6..8 to 8 of 4-5");
    }

    private static int caught(Maker m, int code, int a) {
        return m.attempt(a, m.taking(code, code, 0, m.skip()), -1);
    }

    private static void mostOverFirst() {
        Check.sentence("TRY by TRY, those first that have the most TRYs over them");
        Maker m = new Maker();
        int shallow = caught(m, 1, m.call(1));
        int deep = caught(m, 4, caught(m, 5, caught(m, 6, m.call(2))));
        laid("a deep one that was begun later", m, m.sequence(shallow, deep),
            "CALL 1; CALL 2; RET; STORE 0; JUMP 1; STORE 0; JUMP 2; STORE 0; JUMP 2; STORE 0; JUMP 2",
            "1..2 to 5 of 6-6; 1..2 to 7 of 5-5; 5..7 to 7 of 5-5; 0..1 to 3 of 1-1; 1..2 to 9 of 4-4; 5..9 to 9 of 4-4");
        m = new Maker();
        int none = m.skip();
        int plain = caught(m, 1, m.call(1));
        int over = m.attempt(caught(m, 2, m.call(2)), -1, -1);
        laid("also over it: a TRY of nothing", m, m.sequence(plain, over),
            "CALL 1; CALL 2; RET; STORE 0; JUMP 1; STORE 0; JUMP 2", "1..2 to 5 of 2-2; 0..1 to 3 of 1-1");
        m = new Maker();
        none = m.skip();
        plain = caught(m, 1, m.call(1));
        over = m.attempt(none, -1, caught(m, 2, m.call(2)));
        laid("also over it: the TRY whose finally it is in", m, m.sequence(plain, over),
            "CALL 1; CALL 2; RET; STORE 0; JUMP 1; STORE 0; JUMP 2; KEEP 0; CALL 2; AGAIN 0; STORE 0; JUMP 9",
            "1..2 to 5 of 2-2; 8..9 to 10 of 2-2; 0..1 to 3 of 1-1");
    }

    private static void whilesDoNotCount() {
        Check.sentence("those first that have the most TRYs over them");
        Maker m = new Maker();
        int one = m.number(1);
        int first = caught(m, 1, m.call(1));
        int second = m.loop(one, m.loop(one, caught(m, 2, m.call(2))));
        laid("two WHILEs about the second are no TRYs over it", m, m.sequence(first, second),
            "CALL 1; PUSH 1; ZERO 8; PUSH 1; ZERO 7; CALL 2; JUMP 3; JUMP 1; RET; STORE 0; JUMP 1; STORE 0; JUMP 6",
            "0..1 to 9 of 1-1; 5..6 to 11 of 2-2");
        m = new Maker();
        one = m.number(1);
        first = m.loop(one, caught(m, 1, m.call(1)));
        second = m.attempt(caught(m, 2, m.call(2)), -1, -1);
        laid("one TRY over the second", m, m.sequence(first, second),
            "PUSH 1; ZERO 4; CALL 1; JUMP 0; CALL 2; RET; STORE 0; JUMP 3; STORE 0; JUMP 5",
            "4..5 to 8 of 2-2; 2..3 to 6 of 1-1");
    }

    private static void begunFirst() {
        Check.sentence("of equal ones those that were begun first");
        Maker m = new Maker();
        int one = caught(m, 1, m.call(1));
        int two = caught(m, 2, m.call(2));
        laid("two beside one another", m, m.sequence(two, one),
            "CALL 2; CALL 1; RET; STORE 0; JUMP 1; STORE 0; JUMP 2", "0..1 to 3 of 2-2; 1..2 to 5 of 1-1");
        laid("the same one twice", m, m.sequence(one, one),
            "CALL 1; CALL 1; RET; STORE 0; JUMP 1; STORE 0; JUMP 2", "0..1 to 3 of 1-1; 1..2 to 5 of 1-1");
        m.bodyOf(0, one);
        m.bodyOf(1, two);
        Check.due("lay", m.x.lay(false), 2 * 4 + 4);
        Check.same("one in a function before", Check.table(m.x), "0..1 to 2 of 1-1; 4..5 to 6 of 2-2");
        m = new Maker();
        int late = m.attempt(m.skip(), m.taking(5, 5, 0, m.attempt(caught(m, 3, m.call(3)), -1, -1)), -1);
        int early = m.attempt(m.attempt(caught(m, 4, m.call(4)), -1, -1), -1, -1);
        laid("one in a catch is begun after all of the body", m, m.sequence(late, early),
            "CALL 4; RET; STORE 0; CALL 3; JUMP 0; STORE 0; JUMP 1; STORE 0; JUMP 4",
            "0..1 to 5 of 4-4; 3..4 to 7 of 3-3");
    }

    private static void catchesThenFinally() {
        Check.sentence("for each catch in order, for each longest stretch .. Then, if it has a finally");
        Maker m = new Maker();
        int none = m.skip();
        int last = m.takingBehind(1, 2, 0, none, m.taking(8, 9, 0, none));
        int a = m.sequence(m.call(1), m.leave(), m.call(2));
        laid("two catches, a finally, two stretches", m, m.attempt(a, last, none),
            "CALL 1; RET; CALL 2; RET; STORE 0; JUMP 3; STORE 0; JUMP 3; KEEP 0; AGAIN 0",
            "0..1 to 4 of 8-9; 2..3 to 4 of 8-9; 0..1 to 6 of 1-2; 2..3 to 6 of 1-2; "
                + "0..1 to 8 of *; 2..3 to 8 of *; 4..5 to 8 of *; 6..7 to 8 of *");
    }

    private static void longestStretches() {
        Check.sentence("for each longest stretch of instructions, by their firsts");
        Maker m = new Maker();
        int none = m.skip();
        int back = m.leave();
        int one = m.call(1);
        laid("a gap at the first", m, m.attempt(m.sequence(back, one, one), -1, none),
            "RET; CALL 1; CALL 1; RET; KEEP 0; AGAIN 0", "1..3 to 4 of *");
        laid("a gap at the last", m, m.attempt(m.sequence(one, one, back), -1, none),
            "CALL 1; CALL 1; RET; RET; KEEP 0; AGAIN 0", "0..2 to 4 of *");
        laid("two gaps in one another's place", m, m.attempt(m.sequence(one, back, back, one), -1, none),
            "CALL 1; RET; RET; CALL 1; RET; KEEP 0; AGAIN 0", "0..1 to 5 of *; 3..4 to 5 of *");
        laid("nothing but gaps", m, m.attempt(m.sequence(back, back), -1, none), "RET; RET; RET; KEEP 0; AGAIN 0", "");
        int inner = m.attempt(one, -1, one);
        laid("what an inner TRY has apart joins what stands before it", m,
            m.attempt(m.sequence(inner, inner), m.taking(3, 4, 0, none), -1),
            "CALL 1; CALL 1; CALL 1; CALL 1; RET; KEEP 0; CALL 1; AGAIN 0; KEEP 0; CALL 1; AGAIN 0; STORE 0; JUMP 4",
            "0..1 to 5 of *; 2..3 to 8 of *; 0..4 to 11 of 3-4; 5..11 to 11 of 3-4");
    }

    private static void catchOfItsAAlone() {
        Check.sentence("that its a made and that it is around");
        Maker m = new Maker();
        int none = m.skip();
        int inCatch = caught(m, 7, m.call(1));
        laid("what a TRY in its catch has apart is not of its a", m,
            m.attempt(m.call(0), m.taking(4, 5, 1, inCatch), none),
            "CALL 0; RET; STORE 1; CALL 1; JUMP 1; KEEP 0; AGAIN 0; STORE 0; JUMP 4",
            "3..4 to 7 of 7-7; 0..1 to 2 of 4-5; 0..1 to 5 of *; 2..4 to 5 of *; 7..9 to 5 of *");
        int inA = caught(m, 7, m.call(1));
        laid("what a TRY in its a has apart is", m, m.attempt(inA, m.taking(4, 5, 1, none), -1),
            "CALL 1; RET; STORE 0; JUMP 1; STORE 1; JUMP 1", "0..1 to 2 of 7-7; 0..1 to 4 of 4-5; 2..4 to 4 of 4-5");
        laid("what a RETURN in its a makes of a finally further out is not around it", m,
            m.attempt(m.attempt(m.sequence(m.call(0), m.leave()), m.taking(4, 5, 1, none), -1), -1, m.call(2)),
            "CALL 0; CALL 2; RET; CALL 2; RET; STORE 1; JUMP 3; KEEP 0; CALL 2; AGAIN 0",
            "0..1 to 5 of 4-5; 0..1 to 7 of *; 5..7 to 7 of *");
    }

    private static void nothingMade() {
        Check.sentence("for each longest stretch of instructions .. that its a made");
        Maker m = new Maker();
        int none = m.skip();
        laid("a that makes nothing", m, m.attempt(none, m.taking(1, 9, 0, none), -1), "RET; STORE 0; JUMP 0", "");
        laid("with a finally", m, m.attempt(none, -1, none), "RET; KEEP 0; AGAIN 0", "");
        laid("one instruction", m, m.attempt(m.call(0), -1, none), "CALL 0; RET; KEEP 0; AGAIN 0", "0..1 to 2 of *");
    }

    private static void allInts() {
        Check.sentence("that stretch, ANY, all ints");
        Maker m = new Maker();
        m.bodyOf(0, m.attempt(m.call(0), -1, m.skip()));
        m.x.lay(false);
        Check.due("the least", m.x.row(0, 3), MIN);
        Check.due("the greatest", m.x.row(0, 4), MAX);
        int[] codes = {MIN, -1, 1, MAX};
        for (int code : codes) {
            m.bodyOf(0, m.attempt(m.raiseNumber(code), -1, m.putNumber(8)));
            m.x.lay(false);
            Check.due("thrown again, " + code, m.x.run(0), 2);
            Check.due("the finally was done", m.x.latest(3), 1);
            Check.due("the code", m.x.latest(1), code);
        }
    }

    private static void codesAsTheyAre() {
        Check.sentence("that stretch, H, the catch's codes");
        int[][] codes = {{MIN, MAX}, {MAX, MIN}, {MIN, MIN}, {MAX, MAX}, {0, 0}, {1, 0}, {-1, 1}};
        for (int[] c : codes) {
            Maker m = new Maker();
            m.bodyOf(0, m.attempt(m.call(0), m.taking(c[0], c[1], 0, m.skip()), -1));
            m.x.lay(false);
            Check.due("the least", m.x.row(0, 3), c[0]);
            Check.due("the greatest", m.x.row(0, 4), c[1]);
        }
    }

    /** Function 0 ends with what the outer TRY is around, and function 1 begins with it. */
    private static void endsWithAFunction() {
        Check.sentence("(Stretches end where a function does.)");
        Maker m = new Maker();
        int inCatch = caught(m, 7, m.call(1));
        int all = m.attempt(m.call(0), m.taking(4, 5, 1, inCatch), m.skip());
        m.bodyOf(0, all);
        m.bodyOf(1, all);
        Check.due("lay", m.x.lay(false), 2 * 9 + 4);
        Check.due("the second begins right behind", m.x.entry(1), 9);
        Check.same("table", Check.table(m.x),
            "3..4 to 7 of 7-7; 12..13 to 16 of 7-7; 0..1 to 2 of 4-5; 0..1 to 5 of *; 2..4 to 5 of *; 7..9 to 5 of *; "
                + "9..10 to 11 of 4-5; 9..10 to 14 of *; 11..13 to 14 of *; 16..18 to 14 of *");
    }

    private static void endsWithTheLastFunction() {
        Check.sentence("(Stretches end where a function does.)");
        Maker m = new Maker();
        m.bodyOf(5, m.attempt(m.call(0), m.taking(4, 5, 1, caught(m, 7, m.call(1))), m.skip()));
        Check.due("lay", m.x.lay(false), 5 + 9);
        Check.same("up to the last instruction", Check.table(m.x),
            "8..9 to 12 of 7-7; 5..6 to 7 of 4-5; 5..6 to 10 of *; 7..9 to 10 of *; 12..14 to 10 of *");
        m = new Maker();
        int tried = m.attempt(m.call(0), m.taking(4, 5, 1, m.skip()), -1);
        m.bodyOf(5, m.attempt(tried, m.taking(6, 6, 2, m.attempt(m.call(3), -1, m.leave())), -1));
        Check.due("lay", m.x.lay(false), 5 + 2 + 2 + 4 + 3);
        Check.same("a catch does not reach what its own d makes", Check.table(m.x),
            "5..6 to 7 of 4-5; 10..11 to 13 of *; 5..6 to 9 of 6-6; 7..9 to 9 of 6-6");
    }

    private static Maker threeRows() {
        Maker m = new Maker();
        m.bodyOf(0, m.attempt(m.call(0), m.taking(4, 5, 0, m.skip()), m.skip()));
        m.x.lay(false);
        return m;
    }

    private static void rowsThereAre() {
        Check.sentence("IndexOutOfBoundsException if there is none such");
        Maker m = threeRows();
        String same = Check.all(m.x);
        int[] wrong = {-2, -1, 3, 4, 299, 300, 301, 1500, MIN, MAX};
        for (int what = 0; what <= 4; what++) {
            for (int i : wrong) {
                Check.same("row " + i, Check.row(m.x, i, what), "IndexOutOfBoundsException");
            }
        }
        Check.same("the first", Check.row(m.x, 0, 2), "2");
        Check.same("the last", Check.row(m.x, 2, 2), "4");
        Check.same("nothing has changed", Check.all(m.x), same);
    }

    private static void whatOfARow() {
        Check.sentence("IllegalArgumentException for another what");
        Maker m = threeRows();
        String same = Check.all(m.x);
        int[] wrong = {-2, -1, 5, 6, MIN, MAX};
        for (int i = 0; i < 3; i++) {
            for (int what : wrong) {
                Check.same("row " + i + ", what " + what, Check.row(m.x, i, what), "IllegalArgumentException");
            }
        }
        String[] due = {"0", "1", "2", "4", "5"};
        for (int what = 0; what <= 4; what++) {
            Check.same("what " + what, Check.row(m.x, 0, what), due[what]);
        }
        Check.same("nothing has changed", Check.all(m.x), same);
    }

    private static void rowsWhenThereAreNone() {
        Check.sentence("IndexOutOfBoundsException if there is none such");
        Maker m = new Maker();
        for (int what = -1; what <= 5; what++) {
            Check.same("nothing is laid down", Check.row(m.x, 0, what), "IndexOutOfBoundsException");
        }
        m.x.lay(false);
        Check.due("no rows", m.x.laid(1), 0);
        Check.same("the table is empty", Check.row(m.x, 0, 0), "IndexOutOfBoundsException");
        m = threeRows();
        m.x.lay(true);
        Check.same("erased, one row", Check.row(m.x, 0, 0), "0");
        Check.same("no second one, though there was one", Check.row(m.x, 1, 0), "IndexOutOfBoundsException");
    }
}
