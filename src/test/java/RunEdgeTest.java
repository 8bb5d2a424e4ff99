/** The boundaries that the terms name for a run, and promises 10 to 13. */
public final class RunEdgeTest {
    private static final int MIN = Integer.MIN_VALUE;
    private static final int MAX = Integer.MAX_VALUE;

    public static void main(String[] args) {
        of32Bits();
        cutTowardsZero();
        byZero();
        oneOrZero();
        ifNotZero();
        whileNotZero();
        throwOfZero();
        codesFromTo();
        variablesAreZero();
        oneFrame();
        the13thFrame();
        the13thIsThrownAtItsCall();
        framesThatEnded();
        behindItsCall();
        placesOfAFrame();
        placesOfTheLastFrame();
        againThrowsItsPlace();
        atTheEdgesOfAStretch();
        atTheirCalls();
        theFirstRow();
        thePileIsEmptied();
        thePileIsDeep();
        thePileIsNew();
        noRowInAnyFrame();
        the3001stStep();
        theLastStepThrows();
        moreThan64();
        runOfWhat();
        latestOfWhat();
        latestCode();
        latestThrown();
        latestIsTheLatest();
        outOfWhat();
        variableOfWhat();
        Check.end();
    }

    /** Lays the statement down as function 0 and runs it. */
    private static void ran(String what, Maker m, int statement, String report) {
        m.bodyOf(0, statement);
        Check.due(what + ": laid down", m.x.lay(false) > 0, true);
        int over = m.x.run(0);
        Check.due(what + ": over", m.x.latest(0), over);
        Check.same(what, Check.report(m.x), report);
    }

    private static void twoPlaces(int kind, int[][] all) {
        for (int[] one : all) {
            Maker m = new Maker();
            ran("kind " + kind + " of " + one[0] + ", " + one[1], m,
                m.put(m.two(kind, m.number(one[0]), m.number(one[1]))), "1 0 5 1 0 1 | " + one[2]);
        }
    }

    private static void of32Bits() {
        Check.sentence("2 ADD a b, 3 SUB, 4 MUL (of 32 bits)");
        twoPlaces(2, new int[][] {{MAX, 0, MAX}, {MAX, 1, MIN}, {1, MAX, MIN}, {MIN, -1, MAX}, {MIN, MIN, 0}, {MAX, MAX, -2},
            {MAX, MIN, -1}, {-1, 1, 0}});
        twoPlaces(3, new int[][] {{MIN, 0, MIN}, {MIN, 1, MAX}, {MAX, -1, MIN}, {0, MIN, MIN}, {-1, MIN, MAX}, {MIN, MIN, 0},
            {MIN, MAX, 1}, {3, 5, -2}});
        twoPlaces(4, new int[][] {{46340, 46340, 2147395600}, {46341, 46341, -2147479015}, {65536, 65536, 0}, {MIN, -1, MIN},
            {MIN, MIN, 0}, {MAX, MAX, 1}, {MAX, 2, -2}, {-7, 6, -42}, {0, MIN, 0}});
    }

    private static void cutTowardsZero() {
        Check.sentence("5 DIV (cut towards 0");
        twoPlaces(5, new int[][] {{5, 3, 1}, {6, 3, 2}, {-5, 3, -1}, {-6, 3, -2}, {5, -3, -1}, {-5, -3, 1}, {2, 3, 0}, {-2, 3, 0},
            {2, -3, 0}, {-2, -3, 0}, {0, -3, 0}, {MIN, 1, MIN}, {MIN, -1, MIN}, {MIN, 2, -1073741824}, {MAX, -1, -MAX},
            {MIN, MAX, -1}, {MAX, MIN, 0}, {MIN, MIN, 1}});
    }

    private static void byZero() {
        Check.sentence("by 0 it throws 1)");
        int[] tops = {0, 1, -1, MIN, MAX};
        for (int top : tops) {
            Maker m = new Maker();
            int division = m.put(m.two(5, m.number(top), m.number(0)));
            ran(top + " by 0", m, division, "2 1 3 0 1 1 |");
            ran("caught", m, m.attempt(division, m.taking(1, 1, 4, m.skip()), -1), "1 0 6 0 1 1 |");
            Check.due("it is 1", m.x.variable(4), 1);
            ran("codes above", m, m.attempt(division, m.taking(2, MAX, 4, m.skip()), -1), "2 1 3 0 1 1 |");
            ran("codes below", m, m.attempt(division, m.taking(MIN, 0, 4, m.skip()), -1), "2 1 3 0 1 1 |");
        }
    }

    private static void oneOrZero() {
        Check.sentence("6 LESS (1 or 0), 7 EQUAL (1 or 0)");
        twoPlaces(6, new int[][] {{0, 1, 1}, {0, 0, 0}, {1, 0, 0}, {-1, 0, 1}, {MIN, MAX, 1}, {MAX, MIN, 0}, {MIN, MIN, 0},
            {MIN, MIN + 1, 1}, {MAX - 1, MAX, 1}, {MAX, MAX, 0}});
        twoPlaces(7, new int[][] {{0, 0, 1}, {0, 1, 0}, {1, 0, 0}, {-1, -1, 1}, {MIN, MIN, 1}, {MIN, MAX, 0}, {MAX, MAX, 1},
            {1000, 1000, 1}, {65536, 131072, 0}, {0, MIN, 0}});
    }

    private static void ifNotZero() {
        Check.sentence("12 IF a b c: b if a is not 0, else c");
        int[] values = {MIN, -1, 0, 1, 2, 65536, MAX};
        for (int value : values) {
            Maker m = new Maker();
            ran("IF of " + value, m, m.choose(m.number(value), m.putNumber(8), m.putNumber(9)),
                value == 0 ? "1 0 5 1 0 1 | 9" : "1 0 6 1 0 1 | 8");
        }
    }

    private static void whileNotZero() {
        Check.sentence("ZERO (goes if it is 0)");
        for (int times = -1; times <= 3; times++) {
            Maker m = new Maker();
            int v = m.variable(0);
            int down = m.set(0, m.two(3, v, m.number(times < 0 ? -1 : 1)));
            m.bodyOf(0, m.sequence(m.set(0, m.number(times)), m.loop(v, m.sequence(down, m.put(v)))));
            m.x.lay(false);
            Check.due("over well", m.x.run(0), 1);
            Check.due("from " + times + " to 0", m.x.latest(3), times < 0 ? 1 : times);
            Check.due("how many steps", m.x.latest(2), 2 + 2 + (times < 0 ? 1 : times) * 9 + 1);
        }
    }

    private static void throwOfZero() {
        Check.sentence("14 THROW a: throws the code that a is, 2 if that is 0");
        int[] codes = {MIN, -2, -1, 0, 1, 2, 3, MAX};
        for (int code : codes) {
            int thrown = code == 0 ? 2 : code;
            Maker m = new Maker();
            ran("THROW " + code, m, m.raiseNumber(code), "2 " + thrown + " 2 0 1 1 |");
            ran("caught", m, m.attempt(m.raiseNumber(code), m.taking(thrown, thrown, 5, m.skip()), -1), "1 0 5 0 1 1 |");
            Check.due("the variable becomes the code", m.x.variable(5), thrown);
        }
        Maker m = new Maker();
        ran("no catch of 0 is asked", m, m.attempt(m.raiseNumber(0), m.taking(0, 0, 5, m.skip()), -1), "2 2 2 0 1 1 |");
    }

    private static void codesFromTo() {
        Check.sentence("19 CATCH a b c d: of codes from a to b");
        int[][] ranges = {{5, 9}, {5, 5}, {-5, -3}, {-1, 1}, {MIN, -1}, {1, MAX}, {MIN, MAX}, {MIN, MIN}, {MAX, MAX}, {9, 5}, {MAX, MIN}};
        for (int[] r : ranges) {
            int[] codes = {r[0] - 1, r[0], r[0] + 1, r[1] - 1, r[1], r[1] + 1, MIN, MAX, 7};
            for (int code : codes) {
                int thrown = code == 0 ? 2 : code;
                boolean within = r[0] <= thrown && thrown <= r[1];
                Maker m = new Maker();
                ran(thrown + " of " + r[0] + " to " + r[1], m,
                    m.attempt(m.raiseNumber(code), m.taking(r[0], r[1], 0, m.put(m.variable(0))), -1),
                    within ? "1 0 7 1 1 1 | " + thrown : "2 " + thrown + " 2 0 1 1 |");
            }
        }
    }

    private static void variablesAreZero() {
        Check.sentence("A RUN begins at a function, with all variables 0");
        Maker m = new Maker();
        int all = m.skip();
        int shown = m.skip();
        for (int v = 0; v < 8; v++) {
            all = m.sequence(all, m.set(v, m.number(v - 20)));
            shown = m.sequence(shown, m.put(m.variable(v)));
        }
        m.bodyOf(0, shown);
        m.bodyOf(1, all);
        m.bodyOf(2, m.sequence(all, m.raiseNumber(9)));
        m.bodyOf(3, m.sequence(all, m.loop(m.number(1), m.skip())));
        m.x.lay(false);
        for (int f = 1; f <= 3; f++) {
            Check.due("it is over so", m.x.run(f), f);
            for (int v = 0; v < 8; v++) {
                Check.due("variable " + v, m.x.variable(v), v - 20);
            }
            m.x.run(0);
            Check.same("all 0", Check.report(m.x), "1 0 17 8 0 1 | 0 0 0 0 0 0 0 0");
        }
    }

    private static void oneFrame() {
        Check.sentence("A RUN begins at a function, with .. one FRAME");
        Maker m = new Maker();
        for (int f = 0; f < 6; f++) {
            m.bodyOf(f, m.putNumber(f));
        }
        m.x.lay(false);
        for (int f = 0; f < 6; f++) {
            m.x.run(f);
            Check.same("function " + f, Check.report(m.x), "1 0 3 1 0 1 | " + f);
        }
    }

    /** Function 1 calls itself until there are so many frames, and puts out how many there are. */
    private static int deepening(Maker m, int frames) {
        int v = m.variable(0);
        int deeper = m.choose(m.two(6, v, m.number(frames)), m.call(1), m.skip());
        return m.sequence(m.set(0, m.two(2, v, m.number(1))), deeper, m.put(v));
    }

    private static void the13thFrame() {
        Check.sentence("CALL makes a frame; the 13th, that would be, is not made: CALL throws 3.");
        for (int frames = 1; frames <= 14; frames++) {
            Maker m = new Maker();
            m.bodyOf(1, deepening(m, frames));
            m.x.lay(false);
            Check.due(frames + " frames", m.x.run(1), frames <= 12 ? 1 : 2);
            Check.due("the code", m.x.latest(1), frames <= 12 ? 0 : 3);
            Check.due("frames at once", m.x.latest(5), Math.min(frames, 12));
            Check.due("thrown", m.x.latest(4), frames <= 12 ? 0 : 1);
            Check.due("those that ended well", m.x.latest(3), frames <= 12 ? frames : 0);
            Check.due("how far it went", m.x.variable(0), Math.min(frames, 12));
        }
    }

    private static void the13thIsThrownAtItsCall() {
        Check.sentence("CALL throws 3");
        int[][] codes = {{3, 3, 1}, {2, 2, 0}, {4, 4, 0}, {MIN, 2, 0}, {4, MAX, 0}, {MIN, MAX, 1}};
        for (int[] c : codes) {
            Maker m = new Maker();
            int v = m.variable(0);
            int caught = m.taking(c[0], c[1], 1, m.put(v));
            m.bodyOf(1, m.sequence(m.set(0, m.two(2, v, m.number(1))), m.attempt(m.call(1), caught, -1)));
            m.x.lay(false);
            Check.due("caught by " + c[0] + " to " + c[1], m.x.run(1), c[2] == 1 ? 1 : 2);
            Check.due("once, in the 12th frame", m.x.latest(3), c[2]);
            Check.due("the 12th", m.x.out(0), c[2] * 12);
            Check.due("its variable", m.x.variable(1), c[2] * 3);
            Check.due("thrown once", m.x.latest(4), 1);
        }
    }

    private static void framesThatEnded() {
        Check.sentence("CALL makes a frame; the 13th, that would be, is not made");
        Maker m = new Maker();
        int zero = m.set(0, m.number(0));
        m.bodyOf(1, deepening(m, 11));
        m.bodyOf(2, m.sequence(m.call(1), zero, m.call(1), zero, m.call(1)));
        m.x.lay(false);
        Check.due("12 frames three times", m.x.run(2), 1);
        Check.due("12 at once", m.x.latest(5), 12);
        m = new Maker();
        m.bodyOf(1, m.call(1));
        int caught = m.attempt(m.call(1), m.taking(3, 3, 0, m.putNumber(5)), -1);
        ran("frames that ended by a throw", m, m.sequence(caught, caught, m.call(2)), "1 0 35 2 2 12 | 5 5");
        m.x.run(0);
        Check.same("and in the next run", Check.report(m.x), "1 0 35 2 2 12 | 5 5");
    }

    private static void behindItsCall() {
        Check.sentence("RET ends the frame; the one below goes on behind its CALL; with the last one the run is over, well.");
        Maker m = new Maker();
        m.bodyOf(1, m.putNumber(1));
        m.bodyOf(2, m.sequence(m.call(1), m.putNumber(2)));
        ran("a CALL first, between and last", m, m.sequence(m.call(2), m.call(1), m.putNumber(3), m.call(2)),
            "1 0 23 6 0 3 | 1 2 1 3 1 2");
        ran("a CALL alone", m, m.call(3), "1 0 3 0 0 2 |");
        ran("a RETURN ends its frame alone", m, m.sequence(m.call(1), m.leave(), m.call(1)), "1 0 5 1 0 2 | 1");
    }

    /** Forty places are full in the frame below while another frame uses its own. */
    private static void placesOfAFrame() {
        Check.sentence("KEEP takes one into the frame's place k");
        Maker m = new Maker();
        m.bodyOf(1, m.attempt(m.raiseNumber(5), -1, m.skip()));
        int fin = m.attempt(m.call(1), m.taking(5, 5, 1, m.skip()), -1);
        int all = m.raiseNumber(70);
        for (int i = 0; i < 40; i++) {
            all = m.attempt(all, -1, fin);
        }
        m.bodyOf(0, all);
        Check.due("laid down", m.x.lay(false) > 0, true);
        Check.due("the deepest place", m.x.laid(3), 39);
        Check.due("badly", m.x.run(0), 2);
        Check.due("the first code", m.x.latest(1), 70);
        Check.due("thrown", m.x.latest(4), 1 + 40 * 3);
        m = new Maker();
        int none = m.skip();
        all = m.raiseNumber(-6);
        for (int i = 0; i < 147; i++) {
            all = m.attempt(all, -1, none);
        }
        ran("as many places as there can be", m, all, "2 -6 " + (2 + 147 * 2) + " 0 148 1 |");
    }

    private static void placesOfTheLastFrame() {
        Check.sentence("KEEP takes one into the frame's place k");
        Maker m = new Maker();
        int v = m.variable(0);
        int none = m.skip();
        int all = m.raiseNumber(9);
        for (int i = 0; i < 130; i++) {
            all = m.attempt(all, -1, none);
        }
        m.bodyOf(1, m.sequence(m.set(0, m.two(2, v, m.number(1))), m.choose(m.two(6, v, m.number(12)), m.call(1), all)));
        Check.due("laid down", m.x.lay(false) > 0, true);
        Check.due("the deepest place", m.x.laid(3), 129);
        Check.due("badly", m.x.run(1), 2);
        Check.same("130 places in the 12th frame", Check.report(m.x), "2 9 " + (12 * 8 + 11 + 2 + 2 * 130) + " 0 131 12 |");
    }

    private static void againThrowsItsPlace() {
        Check.sentence("AGAIN throws what is in place k");
        Maker m = new Maker();
        int inFinally = m.attempt(m.attempt(m.raiseNumber(8), -1, m.putNumber(2)), m.taking(8, 8, 0, m.skip()), -1);
        ran("another TRY in the finally keeps in its own place", m, m.attempt(m.raiseNumber(7), -1, inFinally),
            "2 7 12 1 4 1 | 2");
        Check.due("which is deeper", m.x.laid(3), 1);
        ran("a finally that throws: what it kept is lost", m, m.attempt(m.raiseNumber(7), -1, m.raiseNumber(8)),
            "2 8 5 0 2 1 |");
        ran("the place is used again", m,
            m.sequence(m.attempt(m.attempt(m.raiseNumber(7), -1, m.skip()), m.taking(7, 7, 0, m.skip()), -1),
                m.attempt(m.raiseNumber(9), -1, m.skip())), "2 9 10 0 4 1 |");
    }

    private static void atTheEdgesOfAStretch() {
        Check.sentence("What is THROWN at an instruction .. : the first row of the table in whose stretch that is");
        Maker m = new Maker();
        int raised = m.raiseNumber(6);
        int caught = m.taking(6, 6, 0, m.putNumber(1));
        int calling = m.call(2);
        ran("right before the stretch", m, m.sequence(raised, m.attempt(calling, caught, -1)), "2 6 2 0 1 1 |");
        ran("the last of it", m, m.attempt(raised, caught, -1), "1 0 7 1 1 1 | 1");
        ran("right behind it", m, m.sequence(m.attempt(calling, caught, -1), raised), "2 6 4 0 1 2 |");
        ran("in the STORE's stretch, not in a's", m, m.attempt(raised, m.taking(6, 6, 0, raised), -1), "2 6 5 0 2 1 |");
        ran("in the finally", m, m.attempt(calling, caught, raised), "2 6 4 0 1 2 |");
        ran("in the finally of another", m, m.attempt(m.attempt(calling, -1, raised), caught, -1), "1 0 9 1 1 2 | 1");
    }

    private static void atTheirCalls() {
        Check.sentence("(in the frames below: at their CALLs)");
        Maker m = new Maker();
        int bad = m.call(1);
        int good = m.call(2);
        int caught = m.taking(6, 6, 0, m.putNumber(1));
        m.bodyOf(1, m.raiseNumber(6));
        ran("the CALL right before the stretch", m, m.sequence(bad, m.attempt(good, caught, -1)), "2 6 3 0 1 2 |");
        ran("the CALL alone in it", m, m.attempt(bad, caught, -1), "1 0 8 1 1 2 | 1");
        ran("the first of it", m, m.attempt(m.sequence(bad, good), caught, -1), "1 0 8 1 1 2 | 1");
        ran("the last of it", m, m.attempt(m.sequence(good, bad), caught, -1), "1 0 10 1 1 2 | 1");
        ran("right behind it", m, m.sequence(m.attempt(good, caught, -1), bad), "2 6 5 0 1 2 |");
        m.bodyOf(3, bad);
        m.bodyOf(4, m.sequence(m.attempt(good, caught, -1), m.call(3)));
        ran("three frames, caught in the last", m, m.attempt(m.call(4), caught, -1), "1 0 12 1 1 4 | 1");
        m.bodyOf(4, m.attempt(m.call(3), caught, -1));
        ran("three frames, caught in the second", m, m.attempt(m.call(4), caught, -1), "1 0 11 1 1 4 | 1");
    }

    private static void theFirstRow() {
        Check.sentence("the first row .. within whose codes the code is");
        Maker m = new Maker();
        int raised = m.raiseNumber(6);
        int wide = m.taking(1, 9, 0, m.putNumber(1));
        int exact = m.taking(6, 6, 0, m.putNumber(2));
        int below = m.taking(1, 5, 0, m.putNumber(3));
        ran("the inner one first", m, m.attempt(m.attempt(raised, exact, -1), wide, -1), "1 0 7 1 1 1 | 2");
        ran("the inner one, though wider", m, m.attempt(m.attempt(raised, wide, -1), exact, -1), "1 0 7 1 1 1 | 1");
        ran("the outer one, if the inner is not of it", m, m.attempt(m.attempt(raised, below, -1), wide, -1), "1 0 7 1 1 1 | 1");
        int both = m.takingBehind(6, 6, 0, m.putNumber(4), wide);
        ran("of two catches the first", m, m.attempt(raised, both, -1), "1 0 7 1 1 1 | 1");
        ran("a catch before its finally", m, m.attempt(raised, exact, m.putNumber(5)), "1 0 9 2 1 1 | 2 5");
        ran("the finally, if no catch is of it", m, m.attempt(raised, below, m.putNumber(5)), "2 6 6 1 2 1 | 5");
    }

    private static void thePileIsEmptied() {
        Check.sentence("the frame's pile is emptied, the code put on it, and it goes on at the target");
        Maker m = new Maker();
        int v = m.variable(0);
        int one = m.number(1);
        int thrown = m.put(m.two(2, one, m.two(2, one, m.two(5, one, m.variable(7)))));
        int caught = m.taking(1, 1, 1, m.set(0, m.two(2, v, m.variable(1))));
        m.bodyOf(0, m.sequence(m.loop(m.two(6, v, m.number(160)), m.attempt(thrown, caught, -1)), m.put(m.two(3, v, one))));
        m.x.lay(false);
        m.x.run(0);
        Check.same("160 times", Check.report(m.x), "1 0 " + (160 * 16 + 4 + 5) + " 1 160 1 | 159");
    }

    private static void thePileIsDeep() {
        Check.sentence("The pile (ints) is each frame's own.");
        Maker m = new Maker();
        int v = m.variable(0);
        int one = m.number(1);
        int deep = one;
        for (int i = 0; i < 100; i++) {
            deep = m.two(2, one, deep);
        }
        int up = m.set(0, m.two(2, v, one));
        m.bodyOf(1, m.sequence(up, m.choose(m.two(6, v, m.number(12)), m.call(1), m.skip()), m.put(deep)));
        m.x.lay(false);
        Check.due("well", m.x.run(1), 1);
        Check.due("in twelve frames", m.x.latest(3), 12);
        for (int i = 0; i < 12; i++) {
            Check.due("in each the same", m.x.out(i), 101);
        }
    }

    /** The first run is over with a hundred ints on its pile; the next one must not find them there. */
    private static void thePileIsNew() {
        Check.sentence("A RUN begins at a function, with all variables 0 and one FRAME. The pile (ints) is each frame's own.");
        Maker m = new Maker();
        int v = m.variable(0);
        int deep = v;
        for (int i = 0; i < 110; i++) {
            deep = m.two(2, v, deep);
        }
        m.bodyOf(0, m.sequence(spending(m, 321, 0), m.put(deep)));
        m.bodyOf(1, m.sequence(m.set(0, m.number(1)), m.put(deep)));
        m.x.lay(false);
        for (int i = 0; i < 3; i++) {
            Check.due("too long", m.x.run(0), 3);
            Check.due("well", m.x.run(1), 1);
            Check.due("what it puts out", m.x.out(0), 111);
        }
    }

    private static void noRowInAnyFrame() {
        Check.sentence("If there is none the frame ends, and it is thrown in the one below; with the last one the run is over, badly.");
        for (int frames = 1; frames <= 12; frames++) {
            Maker m = new Maker();
            int v = m.variable(0);
            int deeper = m.choose(m.two(6, v, m.number(frames)), m.call(1), m.raiseNumber(44));
            m.bodyOf(1, m.sequence(m.set(0, m.two(2, v, m.number(1))), deeper));
            m.x.lay(false);
            Check.due("thrown in frame " + frames, m.x.run(1), 2);
            Check.due("the code", m.x.latest(1), 44);
            Check.due("once", m.x.latest(4), 1);
            Check.due("frames", m.x.latest(5), frames);
            Check.due("steps", m.x.latest(2), 9 * frames + 1);
        }
    }

    /** Counting to times takes 9 * times + 4 steps; then more are done, two or three at once. */
    private static int spending(Maker m, int times, int more) {
        int v = m.variable(0);
        int all = m.loop(m.two(6, v, m.number(times)), m.set(0, m.two(2, v, m.number(1))));
        int left = more;
        if (left % 2 == 1) {
            all = m.sequence(all, m.choose(m.number(1), m.skip(), m.skip()));
            left -= 3;
        }
        for (; left > 0; left -= 2) {
            all = m.sequence(all, m.set(1, m.number(left)));
        }
        return all;
    }

    private static void the3001stStep() {
        Check.sentence("Each instruction that is done .. is a STEP; where the 3001st would be the run is over, too long.");
        for (int n = 2996; n <= 3004; n++) {
            Maker m = new Maker();
            ran(n + " steps, the last a RET", m, spending(m, 332, n - 2993),
                n <= 3000 ? "1 0 " + n + " 0 0 1 |" : "3 0 3000 0 0 1 |");
            m = new Maker();
            ran(n + " steps, the last a throw", m, m.sequence(spending(m, 331, n - 2985), m.raiseNumber(-4)),
                n <= 3000 ? "2 -4 " + n + " 0 1 1 |" : "3 0 3000 0 0 1 |");
            m = new Maker();
            int put = m.sequence(spending(m, 331, n - 2985), m.putNumber(6));
            ran(n + " steps up to a PUT", m, put,
                n <= 2999 ? "1 0 " + (n + 1) + " 1 0 1 | 6" : "3 0 3000 " + (n == 3000 ? "1 0 1 | 6" : "0 0 1 |"));
        }
        Maker m = new Maker();
        ran("without an end", m, m.loop(m.number(1), m.skip()), "3 0 3000 0 0 1 |");
    }

    private static void theLastStepThrows() {
        Check.sentence("Each instruction that is done, also one that throws, is a STEP");
        for (int n = 2999; n <= 3001; n++) {
            Maker m = new Maker();
            int raised = m.sequence(spending(m, 331, n - 2985), m.raiseNumber(4));
            ran(n + " steps up to a throw that is caught", m, m.attempt(raised, m.taking(4, 4, 5, m.skip()), -1),
                "3 0 3000 0 " + (n <= 3000 ? "1 1 |" : "0 1 |"));
            Check.due("whether the STORE was done", m.x.variable(5), n == 2999 ? 4 : 0);
            m = new Maker();
            ran(n + " steps up to an AGAIN", m, m.attempt(m.sequence(spending(m, 331, n - 2987), m.raiseNumber(4)), -1, m.skip()),
                n <= 3000 ? "2 4 " + n + " 0 2 1 |" : "3 0 3000 0 1 1 |");
            m = new Maker();
            int division = m.put(m.two(5, m.number(1), m.number(0)));
            ran(n + " steps up to a DIV by 0", m, m.sequence(spending(m, 331, n - 2986), division),
                n <= 3000 ? "2 1 " + n + " 0 1 1 |" : "3 0 3000 0 0 1 |");
            m = new Maker();
            m.bodyOf(1, m.call(1));
            ran(n + " steps up to the 13th frame", m, m.sequence(spending(m, 330, n - 2986), m.call(1)),
                n <= 3000 ? "2 3 " + n + " 0 1 12 |" : "3 0 3000 0 0 12 |");
        }
    }

    private static void moreThan64() {
        Check.sentence("At most 64 ints are put out, more are lost.");
        int[] counts = {0, 1, 63, 64, 65, 66, 150};
        for (int n : counts) {
            Maker m = new Maker();
            int v = m.variable(0);
            int up = m.set(0, m.two(2, v, m.number(1)));
            m.bodyOf(0, m.loop(m.two(6, v, m.number(n)), m.sequence(up, m.put(v))));
            m.x.lay(false);
            Check.due("over well", m.x.run(0), 1);
            Check.due("put out of " + n, m.x.latest(3), Math.min(n, 64));
            for (int i = 0; i < 70; i++) {
                Check.due("int " + i, m.x.out(i), i < Math.min(n, 64) ? i + 1 : 0);
            }
            Check.due("it goes on", m.x.variable(0), n);
            Check.due("all steps are done", m.x.latest(2), 11 * n + 5);
        }
    }

    private static void runOfWhat() {
        Check.sentence("A run: 1 over well, 2 badly, 3 too long. NONE if nothing is laid down, or there is no such function.");
        Maker m = new Maker();
        for (int f = -1; f <= 6; f++) {
            Check.due("nothing is laid down, " + f, m.x.run(f), -1);
        }
        Check.due("no run was", m.x.latest(0), -1);
        m.bodyOf(1, m.raiseNumber(1));
        m.bodyOf(5, m.loop(m.number(1), m.skip()));
        m.x.lay(false);
        int[] due = {1, 2, 1, 1, 1, 3};
        for (int f = 0; f <= 5; f++) {
            Check.due("function " + f, m.x.run(f), due[f]);
            Check.due("latest", m.x.latest(0), due[f]);
        }
        String same = Check.all(m.x);
        int[] wrong = {-2, -1, 6, 7, MIN, MAX};
        for (int f : wrong) {
            Check.due("function " + f, m.x.run(f), -1);
            Check.same("the latest run is the one before", Check.all(m.x), same);
        }
    }

    private static void latestOfWhat() {
        Check.sentence("NONE if there was none, or for another what");
        Maker m = new Maker();
        int[] whats = {MIN, -2, -1, 0, 1, 2, 3, 4, 5, 6, 7, MAX};
        m.bodyOf(1, m.sequence(m.putNumber(1), m.raiseNumber(8)));
        m.bodyOf(0, m.attempt(m.call(1), -1, m.putNumber(2)));
        m.x.lay(false);
        for (int what : whats) {
            Check.due("no run yet, what " + what, m.x.latest(what), -1);
        }
        m.x.run(0);
        int[] due = {-1, -1, -1, 2, 8, 9, 2, 2, 2, -1, -1, -1};
        for (int i = 0; i < whats.length; i++) {
            Check.due("what " + whats[i], m.x.latest(whats[i]), due[i]);
        }
    }

    private static void latestCode() {
        Check.sentence("1: the code, if badly, else 0");
        Maker m = new Maker();
        int caught = m.attempt(m.raiseNumber(5), m.taking(5, 5, 0, m.skip()), -1);
        ran("badly", m, m.raiseNumber(5), "2 5 2 0 1 1 |");
        ran("well, though something was thrown", m, caught, "1 0 5 0 1 1 |");
        ran("badly, the code -1", m, m.raiseNumber(-1), "2 -1 2 0 1 1 |");
        ran("too long, though something was thrown", m, m.sequence(caught, m.loop(m.number(1), m.skip())), "3 0 3000 0 1 1 |");
    }

    private static void latestThrown() {
        Check.sentence("4: how often something was thrown (AGAIN counts, too)");
        Maker m = new Maker();
        ran("not at all", m, m.skip(), "1 0 1 0 0 1 |");
        ran("once", m, m.raiseNumber(5), "2 5 2 0 1 1 |");
        ran("and again", m, m.attempt(m.raiseNumber(5), -1, m.skip()), "2 5 4 0 2 1 |");
        ran("and again twice", m, m.attempt(m.attempt(m.raiseNumber(5), -1, m.skip()), -1, m.skip()), "2 5 6 0 3 1 |");
        m.bodyOf(1, m.raiseNumber(5));
        ran("out of a frame it is the same throw", m, m.call(1), "2 5 3 0 1 2 |");
    }

    private static void latestIsTheLatest() {
        Check.sentence("Of the latest run");
        Maker m = new Maker();
        m.bodyOf(0, m.sequence(m.putNumber(4), m.set(3, m.number(6)), m.call(1)));
        m.bodyOf(2, m.raiseNumber(5));
        m.x.lay(false);
        m.x.run(2);
        m.x.run(0);
        String first = Check.report(m.x);
        Check.same("nothing is left of the one before", first, "1 0 7 1 0 2 | 4");
        m.bodyOf(0, -1);
        m.x.lay(false);
        m.skip();
        Check.same("it stays when all is laid down anew", Check.report(m.x), first);
        Check.due("and its variables", m.x.variable(3), 6);
        m.x.run(0);
        Check.same("until the next", Check.report(m.x), "1 0 1 0 0 1 |");
        Check.due("and its variables", m.x.variable(3), 0);
        Check.due("and its ints", m.x.out(0), 0);
    }

    private static void outOfWhat() {
        Check.sentence("The i-th int, from 0 on, that the latest run put out; 0 if there is none.");
        Maker m = new Maker();
        int[] wrong = {MIN, -2, -1, 2, 3, 63, 64, 65, MAX};
        for (int i = -1; i <= 64; i++) {
            Check.due("no run yet", m.x.out(i), 0);
        }
        m.bodyOf(0, m.sequence(m.putNumber(MIN), m.putNumber(MAX)));
        m.bodyOf(1, m.sequence(m.putNumber(1), m.putNumber(2), m.putNumber(3)));
        m.x.lay(false);
        m.x.run(1);
        m.x.run(0);
        Check.due("the first", m.x.out(0), MIN);
        Check.due("the last", m.x.out(1), MAX);
        for (int i : wrong) {
            Check.due("int " + i, m.x.out(i), 0);
        }
    }

    private static void variableOfWhat() {
        Check.sentence("A variable after the latest run; 0 if there is none such.");
        Maker m = new Maker();
        int[] wrong = {MIN, -2, -1, 8, 9, MAX};
        for (int v = -1; v <= 8; v++) {
            Check.due("no run yet", m.x.variable(v), 0);
        }
        int all = m.skip();
        for (int v = 0; v < 8; v++) {
            all = m.sequence(all, m.set(v, m.number(v % 2 == 0 ? MIN + v : MAX - v)));
        }
        m.bodyOf(0, all);
        m.x.lay(false);
        Check.due("nothing was run", m.x.variable(0), 0);
        m.x.run(0);
        for (int v = 0; v < 8; v++) {
            Check.due("variable " + v, m.x.variable(v), v % 2 == 0 ? MIN + v : MAX - v);
        }
        for (int v : wrong) {
            Check.due("variable " + v, m.x.variable(v), 0);
        }
    }
}
