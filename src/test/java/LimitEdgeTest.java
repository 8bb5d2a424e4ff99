/** The limits of what may be laid down, and the boundaries that promises 5 to 8 name. */
public final class LimitEdgeTest {
    private static final int MIN = Integer.MIN_VALUE;
    private static final int MAX = Integer.MAX_VALUE;
    private static final int TOO_LARGE = -2;
    private static final int ILL = -3;

    public static void main(String[] args) {
        the1001stInstruction();
        the2001stNode();
        eachTimeItIsBegun();
        catchesDoNotCount();
        rowsOfCatches();
        rowsOfFinallies();
        rowsOfOneTry();
        rowsInTheEnd();
        catchesWithoutRows();
        illOrTooManyInstructions();
        illOrTooManyNodes();
        illInOneTry();
        layHowMany();
        layAnew();
        layErased();
        nothingIsLaidDownThen();
        laidOfWhat();
        laidWithoutKeep();
        instructionsThereAre();
        whatOfAnInstruction();
        allInstructions();
        entryOfAFunction();
        Check.end();
    }

    /** A statement that makes a node in each way and all instructions but the two-place ones. */
    private static int ofAllSorts(Maker m) {
        int one = m.number(1);
        int inner = m.sequence(m.choose(m.variable(0), m.stop(), m.leave()), m.set(0, one));
        int tried = m.attempt(inner, m.taking(1, 2, 3, m.put(one)), m.sequence(m.call(0), m.skip()));
        return m.loop(one, m.sequence(tried, m.raise(m.two(2, one, one))));
    }

    /** What it answers with a body for function 0 or none, and all sorts for function 5. */
    private static int layWith(int instructions, int nodes) {
        Maker m = new Maker();
        m.bodyOf(5, ofAllSorts(m));
        if (instructions > 0) {
            m.bodyOf(0, m.filler(instructions));
        } else if (nodes > 0) {
            m.bodyOf(0, m.idle(nodes));
        }
        int answer = m.x.lay(false);
        if (answer < 0) {
            nothingIsLaid(m.x);
        } else {
            Check.due("laid 0", m.x.laid(0), answer);
        }
        return nodes > 0 && answer > 0 ? m.x.laid(2) : answer;
    }

    private static void the1001stInstruction() {
        Check.sentence("It is TOO LARGE where the 1001st instruction .. would be laid down");
        int few = layWith(0, 0);
        Check.due("some", few > 30, true);
        Check.due("999", layWith(999 - few, 0), 999);
        Check.due("1000", layWith(1000 - few, 0), 1000);
        for (int more = 1; more <= few; more++) {
            Check.due("the 1001st is the " + more + "th from the end", layWith(1000 - few + more, 0), TOO_LARGE);
        }
    }

    private static void the2001stNode() {
        Check.sentence("It is TOO LARGE where .. the 2001st node .. would be laid down");
        int few = layWith(0, 1) - 1;
        Check.due("some", few > 30, true);
        Check.due("1999", layWith(0, 1999 - few), 1999);
        Check.due("2000", layWith(0, 2000 - few), 2000);
        for (int more = 1; more <= few + 1; more++) {
            Check.due("the 2001st is the " + more + "th from the end", layWith(0, 2000 - few + more), TOO_LARGE);
        }
    }

    private static void begun(String what, Maker m, int statement, int due) {
        m.bodyOf(0, statement);
        m.x.lay(false);
        Check.due(what, m.x.laid(2), due);
    }

    private static void eachTimeItIsBegun() {
        Check.sentence("(one counts each time it is begun to be laid down; catches do not)");
        Maker m = new Maker();
        int none = m.skip();
        int one = m.number(1);
        m.x.lay(false);
        Check.due("no node", m.x.laid(2), 0);
        begun("one", m, none, 1);
        begun("one twice", m, m.sequence(none, none), 3);
        begun("an expression twice", m, m.put(m.two(2, one, one)), 4);
        begun("a finally, twice", m, m.attempt(none, -1, none), 4);
        begun("a finally, once more with a RETURN", m, m.attempt(m.leave(), -1, none), 5);
        begun("a finally, once more with a BREAK", m, m.loop(one, m.attempt(m.stop(), -1, none)), 7);
        begun("a finally, once more with a catch", m, m.attempt(none, m.taking(1, 1, 0, none), none), 6);
        m.bodyOf(1, none);
        begun("in two functions", m, none, 2);
        m.x.lay(false);
        Check.due("not those of the laying down before", m.x.laid(2), 2);
    }

    private static void catchesDoNotCount() {
        Check.sentence("catches do not");
        Maker m = new Maker();
        int none = m.skip();
        int last = m.taking(0, 0, 0, none);
        for (int i = 1; i < 100; i++) {
            last = m.takingBehind(i, i, 0, none, last);
        }
        m.bodyOf(0, m.attempt(none, last, -1));
        Check.due("100 catches", m.x.lay(false), 6 + 200);
        Check.due("their statements count", m.x.laid(2), 2 + 100);
        m.bodyOf(1, m.idle(2000 - 102));
        Check.due("2000 nodes and 100 catches", m.x.lay(false), 6 + 200);
        Check.due("2000 nodes", m.x.laid(2), 2000);
        m.bodyOf(2, none);
        Check.due("2001 nodes", m.x.lay(false), TOO_LARGE);
        Check.due("without the catches it is not", m.x.lay(true), 6);
        Check.due("1901 nodes", m.x.laid(2), 1901);
    }

    private static void rows(String what, Maker m, int due) {
        int answer = m.x.lay(false);
        Check.due(what, due > 300 ? answer : m.x.laid(1), due > 300 ? TOO_LARGE : due);
        if (due > 300) {
            nothingIsLaid(m.x);
        } else {
            Check.same("the last row", Check.row(m.x, due - 1, 5), "IllegalArgumentException");
            Check.same("the row behind it", Check.row(m.x, due, 0), "IndexOutOfBoundsException");
        }
    }

    private static void rowsOfCatches() {
        Check.sentence("or there are more than 300 rows in the end");
        Maker m = new Maker();
        int one = m.attempt(m.call(0), m.taking(1, 1, 0, m.skip()), -1);
        m.bodyOf(0, m.times(one, 299));
        rows("299", m, 299);
        m.bodyOf(4, one);
        rows("300", m, 300);
        m.bodyOf(5, one);
        rows("301", m, 301);
        Check.due("erased", m.x.lay(true), 301 + 6);
    }

    private static void rowsOfFinallies() {
        Check.sentence("or there are more than 300 rows in the end");
        Maker m = new Maker();
        int one = m.attempt(m.call(0), -1, m.skip());
        m.bodyOf(0, m.times(one, 300));
        rows("300", m, 300);
        m.bodyOf(1, m.attempt(m.skip(), -1, m.skip()));
        rows("300 and a finally of nothing that could throw", m, 300);
        m.bodyOf(1, one);
        rows("301", m, 301);
        Check.due("erased, too", m.x.lay(true), TOO_LARGE);
    }

    /** Each RETURN in a TRY with a finally makes a gap in what the TRY is around. */
    private static void rowsOfOneTry() {
        Check.sentence("or there are more than 300 rows in the end");
        int[] stretches = {299, 300, 301};
        for (int n : stretches) {
            Maker m = new Maker();
            m.bodyOf(0, m.attempt(m.times(m.sequence(m.call(0), m.leave()), n), -1, m.skip()));
            rows(n + " stretches of a finally", m, n);
        }
        Maker m = new Maker();
        int tried = m.attempt(m.times(m.sequence(m.call(0), m.leave()), 149), m.taking(1, 1, 0, m.skip()), m.skip());
        m.bodyOf(0, tried);
        rows("149 of a catch, 149 of a finally, and one of what the catch makes", m, 299);
        int one = m.attempt(m.call(0), m.taking(1, 1, 0, m.skip()), -1);
        m.bodyOf(1, one);
        rows("one more", m, 300);
        m.bodyOf(2, one);
        rows("two more", m, 301);
    }

    private static void rowsInTheEnd() {
        Check.sentence("more than 300 rows in the end .. Laying down ends at the first of these.");
        Maker m = new Maker();
        int one = m.attempt(m.call(0), m.taking(1, 1, 0, m.skip()), -1);
        m.bodyOf(0, m.times(one, 301));
        Check.due("301 rows", m.x.lay(false), TOO_LARGE);
        m.bodyOf(5, m.stop());
        Check.due("a BREAK comes before the end", m.x.lay(false), ILL);
        m.bodyOf(0, m.times(one, 300));
        Check.due("300 rows and a BREAK", m.x.lay(false), ILL);
    }

    /** As many catches as 1000 instructions allow; the last one alone has something to take from. */
    private static void catchesWithoutRows() {
        Check.sentence("or there are more than 300 rows in the end");
        Maker m = new Maker();
        int none = m.skip();
        int last = m.taking(0, 0, 0, none);
        for (int i = 1; i < 99; i++) {
            last = m.takingBehind(i, i, 0, none, last);
        }
        int idle = m.attempt(none, last, -1);
        for (int f = 0; f < 5; f++) {
            m.bodyOf(f, idle);
        }
        m.bodyOf(5, m.attempt(m.raiseNumber(7), m.taking(7, 7, 3, none), -1));
        Check.due("496 catches", m.x.lay(false), 5 * 2 * 99 + 4 + 6);
        Check.same("one row", Check.table(m.x), (5 * 199) + ".." + (5 * 199 + 2) + " to " + (5 * 199 + 3) + " of 7-7");
        Check.due("it is looked into", m.x.run(5), 1);
        Check.due("by the catch", m.x.variable(3), 7);
    }

    private static void illOrTooManyInstructions() {
        Check.sentence("Laying down ends at the first of these.");
        Maker m = new Maker();
        int stop = m.stop();
        int most = m.filler(994);
        m.bodyOf(0, most);
        Check.due("1000 instructions", m.x.lay(false), 1000);
        m.bodyOf(0, m.sequence(stop, m.filler(1001)));
        Check.due("a BREAK, then the 1001st", m.x.lay(false), ILL);
        m = new Maker();
        stop = m.stop();
        m.bodyOf(0, m.sequence(m.filler(1000), stop));
        Check.due("the 1000th, then a BREAK", m.x.lay(false), ILL);
        m = new Maker();
        stop = m.stop();
        m.bodyOf(0, m.sequence(m.filler(1001), stop));
        Check.due("the 1001st, then a BREAK", m.x.lay(false), TOO_LARGE);
        m.bodyOf(0, m.filler(999));
        m.bodyOf(1, stop);
        Check.due("the 1000th is the RET, then a BREAK", m.x.lay(false), ILL);
        m.bodyOf(0, m.filler(1000));
        Check.due("the 1001st is the RET, then a BREAK", m.x.lay(false), TOO_LARGE);
    }

    private static void illOrTooManyNodes() {
        Check.sentence("Laying down ends at the first of these.");
        Maker m = new Maker();
        int stop = m.stop();
        m.bodyOf(0, m.idle(1999));
        m.bodyOf(1, stop);
        Check.due("the 2000th node is the BREAK", m.x.lay(false), ILL);
        m = new Maker();
        m.bodyOf(0, m.idle(1998));
        m.bodyOf(1, m.attempt(m.stop(), -1, m.skip()));
        Check.due("the 2000th node is the BREAK, a finally would be the next", m.x.lay(false), ILL);
        m = new Maker();
        stop = m.stop();
        m.bodyOf(0, m.idle(2000));
        m.bodyOf(1, stop);
        Check.due("the 2001st node is the BREAK", m.x.lay(false), TOO_LARGE);
        m.bodyOf(1, m.loop(m.number(1), stop));
        Check.due("the 2001st is a WHILE", m.x.lay(false), TOO_LARGE);
        m = new Maker();
        stop = m.stop();
        m.bodyOf(0, stop);
        m.bodyOf(1, m.idle(2001));
        Check.due("a BREAK, then the 2001st", m.x.lay(false), ILL);
    }

    private static void illInOneTry() {
        Check.sentence("Laying down ends at the first of these.");
        Maker m = new Maker();
        int stop = m.stop();
        int none = m.skip();
        int large = m.filler(1001);
        int caught = m.taking(1, 1, 0, stop);
        m.bodyOf(0, m.attempt(stop, -1, large));
        Check.due("a is ill, the finally too large", m.x.lay(false), ILL);
        m.bodyOf(0, m.attempt(large, -1, stop));
        Check.due("a is too large, the finally ill", m.x.lay(false), TOO_LARGE);
        m.bodyOf(0, m.attempt(none, caught, large));
        Check.due("the catch is ill, the finally too large", m.x.lay(false), TOO_LARGE);
        m.bodyOf(0, m.sequence(m.attempt(none, caught, -1), large));
        Check.due("the catch is ill, what is behind too large", m.x.lay(false), TOO_LARGE);
        m.bodyOf(0, m.attempt(none, caught, -1));
        m.bodyOf(1, large);
        Check.due("the catch is ill, the next function too large", m.x.lay(false), ILL);
        Check.due("erased the catch is not there", m.x.lay(true), TOO_LARGE);
    }

    private static void layHowMany() {
        Check.sentence("All is laid down anew .. : how many instructions.");
        Maker m = new Maker();
        Check.due("six at least", m.x.lay(false), 6);
        Check.due("six at least, erased", m.x.lay(true), 6);
        for (int n = 1; n <= 20; n++) {
            m = new Maker();
            m.bodyOf(3, m.filler(n));
            Check.due(n + " more", m.x.lay(false), 6 + n);
        }
    }

    private static void layAnew() {
        Check.sentence("All is laid down anew");
        Maker m = new Maker();
        int all = ofAllSorts(m);
        m.bodyOf(2, all);
        m.x.lay(false);
        String same = Check.all(m.x);
        m.x.lay(false);
        Check.same("twice the same", Check.all(m.x), same);
        m.bodyOf(2, -1);
        m.x.lay(false);
        Check.due("nothing is left of what was more", m.x.laid(0), 6);
        Check.due("no rows", m.x.laid(1), 0);
        Check.due("no nodes", m.x.laid(2), 0);
        Check.due("no KEEP", m.x.laid(3), -1);
        Check.same("no 7th instruction", Check.instruction(m.x, 6, 0), "IndexOutOfBoundsException");
        m.bodyOf(2, all);
        m.x.lay(false);
        Check.same("the same again", Check.all(m.x), same);
    }

    /** TRYs with catches, or the same without. */
    private static Maker caughtOrNot(boolean caught) {
        Maker m = new Maker();
        int inner = m.attempt(m.call(1), caught ? m.taking(1, 9, 0, m.leave()) : -1, m.call(2));
        int middle = m.attempt(inner, caught ? m.taking(1, 9, 0, m.attempt(m.call(3), -1, m.call(4))) : -1, -1);
        m.bodyOf(1, m.attempt(middle, caught ? m.taking(1, 9, 0, m.stop()) : -1, m.skip()));
        return m;
    }

    private static void layErased() {
        Check.sentence("with all catches left out (as if TRYs had none), if erased");
        Maker with = caughtOrNot(true);
        Maker without = caughtOrNot(false);
        Check.due("how many", with.x.lay(true), without.x.lay(false));
        Check.same("as if TRYs had none", Check.all(with.x), Check.all(without.x));
        without.x.lay(true);
        Check.same("where there are none", Check.all(with.x), Check.all(without.x));
        Check.due("only that once: with its catches it is ill", with.x.lay(false), ILL);
        Maker m = new Maker();
        m.bodyOf(0, m.attempt(m.raiseNumber(4), m.taking(4, 4, 0, m.skip()), -1));
        Check.due("with a catch", m.x.lay(false), 2 + 1 + 2 + 5);
        Check.due("it catches", m.x.run(0), 1);
        Check.due("without", m.x.lay(true), 2 + 1 + 5);
        Check.due("it does not", m.x.run(0), 2);
        Check.due("with it again", m.x.lay(false), 2 + 1 + 2 + 5);
        Check.due("it catches again", m.x.run(0), 1);
    }

    private static void nothingIsLaid(UnwindMill x) {
        for (int what = -1; what <= 4; what++) {
            Check.due("laid " + what, x.laid(what), -1);
        }
        for (int f = -1; f <= 6; f++) {
            Check.due("entry " + f, x.entry(f), -1);
            Check.due("run " + f, x.run(f), -1);
        }
        for (int what = -1; what <= 5; what++) {
            Check.same("instruction", Check.instruction(x, 0, what), "IndexOutOfBoundsException");
            Check.same("row", Check.row(x, 0, what), "IndexOutOfBoundsException");
        }
    }

    private static void nothingIsLaidDownThen() {
        Check.sentence("TOO_LARGE or ILL, and nothing is laid down then.");
        for (int why = 0; why < 4; why++) {
            Maker m = new Maker();
            m.bodyOf(0, m.attempt(m.raiseNumber(6), m.taking(6, 6, 3, m.putNumber(9)), m.set(4, m.number(2))));
            m.x.lay(false);
            m.x.run(0);
            String before = Check.all(m.x);
            String ran = Check.report(m.x);
            int one = m.attempt(m.call(0), -1, m.skip());
            int wrong = why == 0 ? m.stop() : why == 1 ? m.filler(1000) : why == 2 ? m.idle(2001) : m.times(one, 301);
            m.bodyOf(5, wrong);
            Check.same("before it is laid down", Check.all(m.x), before);
            Check.due("why " + why, m.x.lay(false), why == 0 ? ILL : TOO_LARGE);
            nothingIsLaid(m.x);
            Check.same("the latest run is what it was", Check.report(m.x), ran);
            Check.due("its variables", m.x.variable(4), 2);
            Check.due("once more", m.x.lay(false), why == 0 ? ILL : TOO_LARGE);
            m.bodyOf(5, -1);
            nothingIsLaid(m.x);
            m.x.lay(false);
            Check.same("mended", Check.all(m.x), before);
        }
    }

    private static void laidOfWhat() {
        Check.sentence("NONE if nothing is, or for another what");
        Maker m = new Maker();
        int[] whats = {MIN, -2, -1, 0, 1, 2, 3, 4, 5, MAX};
        for (int what : whats) {
            Check.due("nothing is laid down, what " + what, m.x.laid(what), -1);
        }
        int inner = m.attempt(m.call(1), m.taking(1, 1, 0, m.skip()), m.skip());
        m.bodyOf(0, m.attempt(inner, -1, m.skip()));
        m.x.lay(false);
        int[] due = {-1, -1, -1, 6 + 7, 5, 9, 1, -1, -1, -1};
        for (int i = 0; i < whats.length; i++) {
            Check.due("what " + whats[i], m.x.laid(whats[i]), due[i]);
        }
    }

    private static void laidWithoutKeep() {
        Check.sentence("3: the deepest k of a KEEP, NONE without one");
        Maker m = new Maker();
        m.x.lay(false);
        Check.due("nothing", m.x.laid(3), -1);
        m.bodyOf(0, m.attempt(m.call(0), m.taking(1, 1, 0, m.skip()), -1));
        m.x.lay(false);
        Check.due("a TRY without a finally", m.x.laid(3), -1);
        int tried = m.attempt(m.call(0), -1, m.skip());
        m.bodyOf(5, tried);
        m.x.lay(false);
        Check.due("one with a finally", m.x.laid(3), 0);
        m.bodyOf(4, m.attempt(tried, -1, m.skip()));
        m.x.lay(false);
        Check.due("the deepest is not the last", m.x.laid(3), 1);
        m.bodyOf(4, -1);
        m.bodyOf(5, -1);
        m.x.lay(false);
        Check.due("without one again", m.x.laid(3), -1);
    }

    private static void instructionsThereAre() {
        Check.sentence("IndexOutOfBoundsException if there is none such");
        Maker m = new Maker();
        for (int what = -1; what <= 2; what++) {
            Check.same("nothing is laid down", Check.instruction(m.x, 0, what), "IndexOutOfBoundsException");
            Check.same("nothing is laid down", Check.instruction(m.x, -1, what), "IndexOutOfBoundsException");
        }
        m.bodyOf(5, m.putNumber(3));
        m.x.lay(false);
        String same = Check.all(m.x);
        int[] wrong = {-2, -1, 8, 9, 999, 1000, 1001, MIN, MAX};
        for (int i : wrong) {
            Check.same("instruction " + i, Check.instruction(m.x, i, 0), "IndexOutOfBoundsException");
            Check.same("instruction " + i, Check.instruction(m.x, i, 1), "IndexOutOfBoundsException");
        }
        Check.same("the first", Check.instruction(m.x, 0, 0), "14");
        Check.same("the last", Check.instruction(m.x, 7, 0), "14");
        Check.same("nothing has changed", Check.all(m.x), same);
        m.bodyOf(5, m.filler(994));
        m.x.lay(false);
        Check.same("the 1000th", Check.instruction(m.x, 999, 0), "14");
        Check.same("the 1001st", Check.instruction(m.x, 1000, 0), "IndexOutOfBoundsException");
    }

    private static void whatOfAnInstruction() {
        Check.sentence("IllegalArgumentException for another what");
        Maker m = new Maker();
        m.bodyOf(0, m.putNumber(3));
        m.x.lay(false);
        String same = Check.all(m.x);
        int[] wrong = {-2, -1, 2, 3, MIN, MAX};
        for (int i = 0; i < 8; i++) {
            for (int what : wrong) {
                Check.same("instruction " + i + ", what " + what, Check.instruction(m.x, i, what), "IllegalArgumentException");
            }
        }
        Check.same("what 0", Check.instruction(m.x, 0, 0), "0");
        Check.same("what 1", Check.instruction(m.x, 0, 1), "3");
        Check.same("nothing has changed", Check.all(m.x), same);
    }

    private static void instruction(String what, Maker m, int i, int number, int a) {
        Check.due(what, m.x.instruction(i, 0), number);
        Check.due(what + ", what 1", m.x.instruction(i, 1), a);
    }

    private static void allInstructions() {
        Check.sentence("1: its a or k, or the instruction it goes to; 0 if it has none");
        Maker m = new Maker();
        int least = m.number(MIN);
        int seven = m.variable(7);
        for (int kind = 2; kind <= 7; kind++) {
            m.bodyOf(0, m.raise(m.two(kind, least, seven)));
            m.x.lay(false);
            instruction("PUSH", m, 0, 0, MIN);
            instruction("LOAD", m, 1, 1, 7);
            instruction("of kind " + kind, m, 2, kind, 0);
            instruction("RAISE", m, 3, 12, 0);
            instruction("RET", m, 4, 14, 0);
        }
        int all = m.attempt(m.sequence(m.set(6, seven), m.put(m.number(MAX)), m.call(5)), -1, m.skip());
        m.bodyOf(0, m.attempt(m.loop(m.number(-1), all), -1, m.skip()));
        m.x.lay(false);
        instruction("PUSH", m, 0, 0, -1);
        instruction("ZERO", m, 1, 10, 8);
        instruction("LOAD", m, 2, 1, 7);
        instruction("STORE", m, 3, 8, 6);
        instruction("PUSH", m, 4, 0, MAX);
        instruction("PUT", m, 5, 9, 0);
        instruction("CALL", m, 6, 13, 5);
        instruction("JUMP", m, 7, 11, 0);
        instruction("RET", m, 8, 14, 0);
        instruction("KEEP 1", m, 9, 15, 1);
        instruction("AGAIN 1", m, 10, 16, 1);
        instruction("KEEP 0", m, 11, 15, 0);
        instruction("AGAIN 0", m, 12, 16, 0);
    }

    private static void entryOfAFunction() {
        Check.sentence("The first instruction of a function; NONE if nothing is laid down, or there is none such.");
        Maker m = new Maker();
        int[] wrong = {-2, -1, 6, 7, MIN, MAX};
        for (int f = 0; f <= 5; f++) {
            Check.due("nothing is laid down, " + f, m.x.entry(f), -1);
        }
        m.bodyOf(0, m.call(1));
        m.bodyOf(5, m.call(1));
        m.x.lay(false);
        int[] due = {0, 2, 3, 4, 5, 6};
        for (int f = 0; f <= 5; f++) {
            Check.due("entry of " + f, m.x.entry(f), due[f]);
        }
        for (int f : wrong) {
            Check.due("entry of " + f, m.x.entry(f), -1);
        }
    }
}
