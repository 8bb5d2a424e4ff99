/** Promises 5 to 9: lay, laid, instruction, entry, row. Most bodies are of function 5, so no RETs come behind. */
public final class LayTest {
    public static void main(String[] args) {
        plainNodes();
        entries();
        catchAndFinally();
        orderOfCatches();
        erased();
        nothingApart();
        orderApart();
        returns();
        returnsPastCatches();
        breaks();
        breakInWhatIsApart();
        placesOfKeep();
        orderOfRows();
        gapsInStretches();
        ill();
        mostInstructions();
        mostNodes();
        mostRows();
        deepest();
        nothingStandsAfterwards();
        wrongAsking();
        Check.end();
    }

    /** Lays the statement down as function 5; the five RETs before it are told by their entries alone. */
    private static void laid(String what, Maker m, int statement, String code, String table) {
        m.bodyOf(5, statement);
        int count = m.x.lay(false);
        Check.due(what + ": count", m.x.laid(0), count);
        Check.same(what, Check.code(m.x), "RET; RET; RET; RET; RET; " + code);
        Check.same(what + ": table", Check.table(m.x), table);
    }

    private static void plainNodes() {
        Maker m = new Maker();
        laid("SKIP", m, m.skip(), "RET", "");
        m = new Maker();
        laid("SET", m, m.set(3, m.number(-8)), "PUSH -8; STORE 3; RET", "");
        String[] names = {"ADD", "SUB", "MUL", "DIV", "LESS", "EQUAL"};
        for (int kind = 2; kind <= 7; kind++) {
            m = new Maker();
            laid("two " + kind, m, m.put(m.two(kind, m.variable(6), m.number(4))),
                "LOAD 6; PUSH 4; " + names[kind - 2] + "; PUT; RET", "");
        }
        m = new Maker();
        laid("SEQUENCE", m, m.sequence(m.call(4), m.putNumber(1)), "CALL 4; PUSH 1; PUT; RET", "");
        m = new Maker();
        laid("IF", m, m.choose(m.variable(1), m.call(2), m.call(3)),
            "LOAD 1; ZERO 9; CALL 2; JUMP 10; CALL 3; RET", "");
        m = new Maker();
        laid("WHILE", m, m.loop(m.variable(1), m.call(2)), "LOAD 1; ZERO 9; CALL 2; JUMP 5; RET", "");
        m = new Maker();
        laid("THROW", m, m.raise(m.number(9)), "PUSH 9; RAISE; RET", "");
        m = new Maker();
        laid("RETURN", m, m.sequence(m.leave(), m.call(1)), "RET; CALL 1; RET", "");
        m = new Maker();
        laid("BREAK", m, m.loop(m.number(1), m.sequence(m.stop(), m.call(0))),
            "PUSH 1; ZERO 10; JUMP 10; CALL 0; JUMP 5; RET", "");
        m = new Maker();
        int none = m.skip();
        laid("empty IF", m, m.choose(m.number(1), none, none), "PUSH 1; ZERO 8; JUMP 8; RET", "");
        Check.due("how many nodes", m.x.laid(2), 4);
        Check.due("no KEEP", m.x.laid(3), -1);
        Check.due("no rows", m.x.laid(1), 0);
    }

    private static void entries() {
        Maker m = new Maker();
        int one = m.call(1);
        int two = m.sequence(one, one);
        int three = m.attempt(two, m.taking(1, 1, 0, one), -1);
        m.bodyOf(1, one);
        m.bodyOf(2, three);
        m.bodyOf(4, two);
        Check.due("lay", m.x.lay(false), 1 + 2 + 6 + 1 + 3 + 1);
        int[] due = {0, 1, 3, 9, 10, 13};
        for (int f = 0; f < 6; f++) {
            Check.due("entry " + f, m.x.entry(f), due[f]);
        }
        Check.due("entry 6", m.x.entry(6), -1);
        Check.due("entry -1", m.x.entry(-1), -1);
    }

    private static void catchAndFinally() {
        Maker m = new Maker();
        int t = m.attempt(m.call(0), m.taking(1, 9, 2, m.call(1)), m.call(2));
        laid("TRY", m, t, "CALL 0; CALL 2; RET; STORE 2; CALL 1; CALL 2; JUMP 7; KEEP 0; CALL 2; AGAIN 0",
            "5..6 to 8 of 1-9; 5..6 to 12 of *; 8..10 to 12 of *");
        Check.due("nodes: the finally thrice", m.x.laid(2), 1 + 1 + 1 + 3);
        Check.due("deepest KEEP", m.x.laid(3), 0);
    }

    private static void orderOfCatches() {
        Maker m = new Maker();
        int first = m.taking(1, 1, 1, m.skip());
        int second = m.takingBehind(9, 2, 2, m.skip(), first);
        int third = m.takingBehind(-5, 3, 3, m.skip(), second);
        laid("three catches", m, m.attempt(m.call(0), third, -1),
            "CALL 0; RET; STORE 1; JUMP 6; STORE 2; JUMP 6; STORE 3; JUMP 6",
            "5..6 to 7 of 1-1; 5..6 to 9 of 9-2; 5..6 to 11 of -5-3");
        laid("the first two of them", m, m.attempt(m.call(0), second, -1),
            "CALL 0; RET; STORE 1; JUMP 6; STORE 2; JUMP 6", "5..6 to 7 of 1-1; 5..6 to 9 of 9-2");
        Check.due("catches do not count", m.x.laid(2), 4);
    }

    private static void erased() {
        Maker m = new Maker();
        int inner = m.attempt(m.call(0), m.taking(1, 9, 2, m.stop()), -1);
        int outer = m.attempt(inner, m.taking(1, 9, 2, m.call(1)), m.call(2));
        m.bodyOf(5, outer);
        Check.due("a BREAK in a catch is ill", m.x.lay(false), -3);
        Check.due("erased it is not there", m.x.lay(true), 5 + 6);
        Check.same("erased", Check.code(m.x), "RET; RET; RET; RET; RET; CALL 0; CALL 2; RET; KEEP 0; CALL 2; AGAIN 0");
        Check.same("erased: table", Check.table(m.x), "5..6 to 8 of *");
        Check.due("erased: nodes", m.x.laid(2), 5);
        Check.due("not erased again", m.x.lay(false), -3);
    }

    private static void nothingApart() {
        Maker m = new Maker();
        laid("a TRY of nothing", m, m.attempt(m.call(0), -1, -1), "CALL 0; RET", "");
        Check.due("it counts as a node", m.x.laid(2), 2);
    }

    /** Inner ones are done before outer ones; those in what is apart come behind all. */
    private static void orderApart() {
        Maker m = new Maker();
        int none = m.skip();
        int inCatch = m.attempt(none, m.taking(0, 0, 3, none), -1);
        int inner = m.attempt(none, m.taking(0, 0, 1, inCatch), -1);
        int outer = m.attempt(inner, m.taking(0, 0, 2, none), -1);
        int next = m.attempt(none, m.taking(0, 0, 4, none), -1);
        laid("order apart", m, m.sequence(outer, next),
            "RET; STORE 1; JUMP 5; STORE 2; JUMP 5; STORE 4; JUMP 5; STORE 3; JUMP 7",
            "6..8 to 8 of 0-0; 12..14 to 8 of 0-0");
    }

    private static void returns() {
        Maker m = new Maker();
        int inner = m.attempt(m.sequence(m.call(0), m.leave(), m.call(0)), -1, m.call(1));
        int outer = m.attempt(inner, -1, m.call(2));
        laid("RETURN", m, outer,
            "CALL 0; CALL 1; CALL 2; RET; CALL 0; CALL 1; CALL 2; RET; KEEP 1; CALL 1; AGAIN 1; KEEP 0; CALL 2; AGAIN 0",
            "5..6 to 13 of *; 9..10 to 13 of *; 5..7 to 16 of *; 9..11 to 16 of *; 13..16 to 16 of *");
        m = new Maker();
        int back = m.leave();
        inner = m.attempt(m.call(0), -1, m.sequence(m.call(1), back));
        outer = m.attempt(inner, -1, m.call(2));
        laid("RETURN in a finally", m, outer,
            "CALL 0; CALL 1; CALL 2; RET; CALL 2; RET; KEEP 1; CALL 1; CALL 2; RET; AGAIN 1; KEEP 0; CALL 2; AGAIN 0",
            "5..6 to 11 of *; 5..7 to 16 of *; 11..13 to 16 of *; 15..16 to 16 of *");
    }

    /** The RET has around it what the outermost TRY with a finally has: a TRY with catches alone stays around it. */
    private static void returnsPastCatches() {
        Maker m = new Maker();
        int inner = m.attempt(m.sequence(m.call(0), m.leave()), -1, m.call(1));
        int outer = m.attempt(inner, m.taking(1, 2, 0, m.leave()), -1);
        laid("RETURN past a catch", m, outer,
            "CALL 0; CALL 1; RET; CALL 1; RET; KEEP 0; CALL 1; AGAIN 0; STORE 0; RET; JUMP 9",
            "5..6 to 10 of *; 5..9 to 13 of 1-2; 10..13 to 13 of 1-2");
        m = new Maker();
        inner = m.attempt(m.leave(), m.taking(1, 2, 0, m.skip()), -1);
        outer = m.attempt(inner, -1, m.call(1));
        laid("RETURN out of a catch's TRY", m, outer,
            "CALL 1; RET; CALL 1; RET; STORE 0; JUMP 7; KEEP 0; CALL 1; AGAIN 0",
            "9..11 to 11 of *");
        m = new Maker();
        laid("RETURN without a finally", m, m.attempt(m.leave(), m.taking(1, 2, 0, m.leave()), -1),
            "RET; RET; STORE 0; RET; JUMP 6", "5..6 to 7 of 1-2");
    }

    private static void breaks() {
        Maker m = new Maker();
        int inner = m.attempt(m.stop(), -1, m.call(1));
        int loop = m.loop(m.number(1), inner);
        int outer = m.attempt(loop, -1, m.call(2));
        laid("BREAK leaves no TRY that is around the WHILE", m, outer,
            "PUSH 1; ZERO 11; CALL 1; JUMP 11; CALL 1; JUMP 5; CALL 2; RET; "
                + "KEEP 1; CALL 1; AGAIN 1; KEEP 0; CALL 2; AGAIN 0",
            "5..11 to 16 of *; 13..16 to 16 of *");
        m = new Maker();
        int stop = m.stop();
        int twoLoops = m.loop(m.number(1), m.sequence(m.loop(m.number(2), stop), stop));
        laid("BREAK out of the innermost", m, twoLoops,
            "PUSH 1; ZERO 13; PUSH 2; ZERO 11; JUMP 11; JUMP 7; JUMP 13; JUMP 5; RET", "");
        m = new Maker();
        int inFinally = m.attempt(m.call(0), -1, m.stop());
        laid("BREAK in a finally", m, m.loop(m.number(1), inFinally),
            "PUSH 1; ZERO 10; CALL 0; JUMP 10; JUMP 5; RET; KEEP 0; JUMP 10; AGAIN 0", "7..8 to 11 of *");
    }

    private static void breakInWhatIsApart() {
        Maker m = new Maker();
        int inner = m.attempt(m.call(0), m.taking(1, 1, 0, m.stop()), m.call(1));
        int loop = m.loop(m.number(1), inner);
        laid("BREAK in a catch", m, loop,
            "PUSH 1; ZERO 10; CALL 0; CALL 1; JUMP 5; RET; STORE 0; CALL 1; JUMP 10; CALL 1; JUMP 9; KEEP 0; CALL 1; AGAIN 0",
            "7..8 to 11 of 1-1; 7..8 to 16 of *; 11..12 to 16 of *");
    }

    private static void placesOfKeep() {
        Maker m = new Maker();
        int none = m.skip();
        int inFinally = m.attempt(none, -1, none);
        int onlyCatch = m.attempt(inFinally, m.taking(0, 0, 0, none), -1);
        int outer = m.attempt(none, -1, onlyCatch);
        laid("a TRY in a finally keeps one place deeper", m, outer,
            "RET; KEEP 1; AGAIN 1; STORE 0; JUMP 5; KEEP 0; AGAIN 0; KEEP 1; AGAIN 1; STORE 0; JUMP 11",
            "6..8 to 8 of 0-0; 12..14 to 14 of 0-0");
        Check.due("deepest KEEP", m.x.laid(3), 1);
    }

    /** TRYs with more over them first, also where those over them make no rows. */
    private static void orderOfRows() {
        Maker m = new Maker();
        int none = m.skip();
        int shallow = m.attempt(m.call(0), m.taking(1, 1, 0, none), -1);
        int deep = m.attempt(m.attempt(m.call(1), m.taking(2, 2, 0, none), -1), -1, -1);
        int alsoShallow = m.attempt(m.call(2), m.taking(3, 3, 0, none), -1);
        laid("order of rows", m, m.sequence(shallow, deep, alsoShallow),
            "CALL 0; CALL 1; CALL 2; RET; STORE 0; JUMP 6; STORE 0; JUMP 7; STORE 0; JUMP 8",
            "6..7 to 11 of 2-2; 5..6 to 9 of 1-1; 7..8 to 13 of 3-3");
        m = new Maker();
        int c = m.taking(7, 7, 0, m.skip());
        int early = m.attempt(m.call(0), c, -1);
        m.bodyOf(0, early);
        m.bodyOf(1, m.attempt(early, c, -1));
        Check.due("lay", m.x.lay(false), 4 + 6 + 4);
        Check.same("rows over all functions", Check.table(m.x),
            "4..5 to 6 of 7-7; 0..1 to 2 of 7-7; 4..5 to 8 of 7-7; 6..8 to 8 of 7-7");
    }

    private static void gapsInStretches() {
        Maker m = new Maker();
        int some = m.call(0);
        int a = m.sequence(some, m.choose(m.variable(0), m.leave(), some), some);
        int t = m.attempt(a, m.taking(1, 1, 0, some), m.call(1));
        laid("a RETURN makes a gap", m, t,
            "CALL 0; LOAD 0; ZERO 11; CALL 1; RET; JUMP 12; CALL 0; CALL 0; CALL 1; RET; "
                + "STORE 0; CALL 0; CALL 1; JUMP 14; KEEP 0; CALL 1; AGAIN 0",
            "5..8 to 15 of 1-1; 10..13 to 15 of 1-1; 5..8 to 19 of *; 10..13 to 19 of *; 15..17 to 19 of *");
    }

    private static void ill() {
        Maker m = new Maker();
        int stop = m.stop();
        m.bodyOf(0, stop);
        Check.due("BREAK alone", m.x.lay(false), -3);
        m.bodyOf(0, m.sequence(m.loop(m.number(1), stop), stop));
        Check.due("BREAK behind a WHILE", m.x.lay(false), -3);
        m.bodyOf(0, m.attempt(m.skip(), -1, stop));
        Check.due("BREAK in a finally", m.x.lay(true), -3);
        m.bodyOf(0, -1);
        Check.due("BREAK is not laid down", m.x.lay(false), 6);
        m.bodyOf(0, m.call(1));
        m.bodyOf(1, m.loop(m.number(1), m.call(2)));
        m.bodyOf(2, stop);
        Check.due("a CALL in a WHILE does not help", m.x.lay(false), -3);
    }

    private static void mostInstructions() {
        Maker m = new Maker();
        int one = m.call(0);
        int all = m.times(one, 994);
        m.bodyOf(2, all);
        Check.due("1000 instructions", m.x.lay(false), 1000);
        Check.due("1000 instructions, nodes", m.x.laid(2), 994 + 993);
        m.bodyOf(1, one);
        Check.due("1001 instructions", m.x.lay(false), -2);
        int stop = m.stop();
        m.bodyOf(5, stop);
        Check.due("ill where the last RET would be too much", m.x.lay(false), -3);
        m.bodyOf(0, one);
        Check.due("the first of two wrongs, too large", m.x.lay(false), -2);
        m.bodyOf(5, -1);
        m.bodyOf(0, stop);
        Check.due("the first of two wrongs, ill", m.x.lay(false), -3);
        m.bodyOf(0, -1);
        m.bodyOf(1, -1);
        Check.due("1000 again", m.x.lay(true), 1000);
        m.bodyOf(2, m.sequence(all, stop));
        Check.due("ill before the last RETs", m.x.lay(false), -3);
    }

    private static void mostNodes() {
        Maker m = new Maker();
        int none = m.skip();
        m.bodyOf(0, m.times(none, 1000));
        Check.due("1999 nodes", m.x.lay(false), 6);
        Check.due("1999 nodes counted", m.x.laid(2), 1999);
        m.bodyOf(1, none);
        Check.due("2000 nodes", m.x.lay(false), 6);
        Check.due("2000 nodes counted", m.x.laid(2), 2000);
        m.bodyOf(5, none);
        Check.due("2001 nodes", m.x.lay(false), -2);
        m.bodyOf(5, m.stop());
        Check.due("the 2001st node is a BREAK", m.x.lay(false), -2);
    }

    private static void mostRows() {
        Maker m = new Maker();
        int one = m.attempt(m.call(0), m.taking(1, 1, 0, m.skip()), -1);
        int most = m.times(one, 300);
        m.bodyOf(3, most);
        Check.due("300 rows", m.x.lay(false), 900 + 6);
        Check.due("300 rows counted", m.x.laid(1), 300);
        Check.due("the last row", m.x.row(299, 0), 3 + 299);
        Check.same("no more", Check.row(m.x, 300, 0), "IndexOutOfBoundsException");
        m.bodyOf(4, one);
        Check.due("301 rows", m.x.lay(false), -2);
        Check.due("301 rows, erased", m.x.lay(true), 301 + 6);
        Check.due("erased there are none", m.x.laid(1), 0);
    }

    /** Finallies that return, in one another: as deep as 2000 nodes can go. */
    private static void deepest() {
        Maker m = new Maker();
        int deep = m.leave();
        int one = m.number(1);
        for (int i = 0; i < 70; i++) {
            deep = m.choose(one, deep, deep);
        }
        int all = m.leave();
        for (int i = 0; i < 70; i++) {
            all = m.attempt(all, -1, deep);
        }
        m.bodyOf(0, all);
        Check.due("deep finallies", m.x.lay(false), -2);
        m = new Maker();
        int none = m.skip();
        all = none;
        for (int i = 0; i < 148; i++) {
            all = m.attempt(all, -1, none);
        }
        m.bodyOf(0, all);
        Check.due("148 TRYs in one another", m.x.lay(false), 6 + 2 * 148);
        Check.due("the deepest place", m.x.laid(3), 147);
        Check.same("the innermost is apart first", Check.instruction(m.x, 1, 1), "147");
        Check.due("a row for each of them that is around another's KEEP", m.x.laid(1), 147);
    }

    private static void nothingStandsAfterwards() {
        Maker m = new Maker();
        m.bodyOf(0, m.putNumber(4));
        m.x.lay(false);
        m.x.run(0);
        m.bodyOf(1, m.stop());
        Check.due("still laid down", m.x.laid(0), 8);
        Check.due("ill", m.x.lay(false), -3);
        for (int what = 0; what < 4; what++) {
            Check.due("laid " + what, m.x.laid(what), -1);
        }
        Check.same("instruction", Check.instruction(m.x, 0, 0), "IndexOutOfBoundsException");
        Check.same("row", Check.row(m.x, 0, 0), "IndexOutOfBoundsException");
        Check.due("entry", m.x.entry(0), -1);
        Check.due("run", m.x.run(0), -1);
        Check.same("the latest run stays", Check.report(m.x), "1 0 3 1 0 1 | 4");
    }

    private static void wrongAsking() {
        Maker m = new Maker();
        m.bodyOf(0, m.attempt(m.call(3), -1, m.skip()));
        Check.due("lay", m.x.lay(false), 9);
        int[] wrongs = {-1, 9, 1000, Integer.MIN_VALUE, Integer.MAX_VALUE};
        for (int i : wrongs) {
            Check.same("instruction " + i, Check.instruction(m.x, i, 0), "IndexOutOfBoundsException");
            Check.same("instruction " + i + " and a wrong what", Check.instruction(m.x, i, 7), "IndexOutOfBoundsException");
            Check.same("row " + i, Check.row(m.x, i, 4), "IndexOutOfBoundsException");
            Check.same("row " + i + " and a wrong what", Check.row(m.x, i, 7), "IndexOutOfBoundsException");
            Check.due("entry " + i, m.x.entry(i), -1);
            Check.due("laid " + i, m.x.laid(i), -1);
        }
        int[] whats = {-1, 2, 5, Integer.MIN_VALUE, Integer.MAX_VALUE};
        for (int what : whats) {
            Check.same("instruction, what " + what, Check.instruction(m.x, 0, what), "IllegalArgumentException");
            Check.same("row, what " + what, Check.row(m.x, 0, what), what == 2 ? "2" : "IllegalArgumentException");
        }
        Check.same("row, least", Check.row(m.x, 0, 3), "-2147483648");
        Check.same("row, greatest", Check.row(m.x, 0, 4), "2147483647");
        Check.same("the last instruction", Check.instruction(m.x, 8, 0), "14");
        Check.same("row behind the last", Check.row(m.x, 1, 0), "IndexOutOfBoundsException");
        Check.due("laid 4", m.x.laid(4), -1);
    }
}
