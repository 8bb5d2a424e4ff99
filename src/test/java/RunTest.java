/** Promises 10 to 13: run, latest, out, variable. */
public final class RunTest {
    private static final int MIN = Integer.MIN_VALUE;
    private static final int MAX = Integer.MAX_VALUE;

    public static void main(String[] args) {
        arithmetic();
        endings();
        division();
        codes();
        catchesInOrder();
        finallies();
        leaving();
        frames();
        throwsThroughFrames();
        placesAreTheFrames();
        steps();
        outs();
        variables();
        latestStays();
        wrongAsking();
        Check.end();
    }

    /** Lays the statement down as function 0 and runs it. */
    private static void ran(String what, Maker m, int statement, String report) {
        m.bodyOf(0, statement);
        Check.due(what + ": laid down", m.x.lay(false) > 0, true);
        int over = m.x.run(0);
        Check.due(what + ": over", m.x.latest(0), over);
        Check.same(what, Check.report(m.x), report);
    }

    private static void arithmetic() {
        int[][] all = {
            {2, 3, 4, 7}, {2, MAX, 1, MIN}, {3, 3, 4, -1}, {3, MIN, 1, MAX}, {4, -3, 4, -12}, {4, 65536, 65536, 0},
            {4, MAX, MAX, 1}, {5, 7, 2, 3}, {5, -7, 2, -3}, {5, 7, -2, -3}, {5, -7, -2, 3}, {5, MIN, -1, MIN},
            {5, 0, 5, 0}, {6, 1, 2, 1}, {6, 2, 2, 0}, {6, MIN, MAX, 1}, {6, MAX, MIN, 0}, {7, 5, 5, 1}, {7, 5, -5, 0},
        };
        for (int[] one : all) {
            Maker m = new Maker();
            ran("kind " + one[0] + " of " + one[1] + ", " + one[2], m,
                m.put(m.two(one[0], m.number(one[1]), m.number(one[2]))), "1 0 5 1 0 1 | " + one[3]);
        }
        Maker m = new Maker();
        int deep = m.number(1);
        int one = deep;
        for (int i = 0; i < 148; i++) {
            deep = m.two(2, one, deep);
        }
        ran("a pile of 149", m, m.put(deep), "1 0 " + (149 + 148 + 2) + " 1 0 1 | 149");
    }

    private static void endings() {
        Maker m = new Maker();
        ran("nothing", m, m.skip(), "1 0 1 0 0 1 |");
        m = new Maker();
        ran("badly", m, m.raiseNumber(-4), "2 -4 2 0 1 1 |");
        m = new Maker();
        ran("too long", m, m.loop(m.number(1), m.skip()), "3 0 3000 0 0 1 |");
        m = new Maker();
        ran("IF of other than 0", m, m.choose(m.number(-1), m.putNumber(1), m.putNumber(2)), "1 0 6 1 0 1 | 1");
        m = new Maker();
        ran("IF of 0", m, m.choose(m.number(0), m.putNumber(1), m.putNumber(2)), "1 0 5 1 0 1 | 2");
    }

    private static void division() {
        Maker m = new Maker();
        int byZero = m.put(m.two(5, m.number(6), m.number(0)));
        ran("by 0", m, byZero, "2 1 3 0 1 1 |");
        m = new Maker();
        byZero = m.put(m.two(2, m.number(9), m.two(5, m.number(6), m.variable(0))));
        int caught = m.taking(1, 1, 3, m.put(m.variable(3)));
        ran("by 0, the pile is emptied", m, m.attempt(byZero, caught, -1), "1 0 9 1 1 1 | 1");
        Check.due("the catch's variable", m.x.variable(3), 1);
    }

    private static void codes() {
        Maker m = new Maker();
        ran("THROW of 0", m, m.raiseNumber(0), "2 2 2 0 1 1 |");
        int[] in = {5, 6, 9};
        int[] outside = {4, 10, MIN, MAX};
        for (int code : in) {
            m = new Maker();
            ran("a code within", m, m.attempt(m.raiseNumber(code), m.taking(5, 9, 0, m.put(m.variable(0))), -1),
                "1 0 7 1 1 1 | " + code);
        }
        for (int code : outside) {
            m = new Maker();
            ran("a code outside", m, m.attempt(m.raiseNumber(code), m.taking(5, 9, 0, m.put(m.variable(0))), -1),
                "2 " + code + " 2 0 1 1 |");
        }
        m = new Maker();
        ran("codes from more to less", m, m.attempt(m.raiseNumber(5), m.taking(9, 1, 0, m.skip()), -1), "2 5 2 0 1 1 |");
        m = new Maker();
        ran("all codes", m, m.attempt(m.raiseNumber(MIN), m.taking(MIN, MAX, 0, m.skip()), -1), "1 0 5 0 1 1 |");
    }

    private static void catchesInOrder() {
        Maker m = new Maker();
        int first = m.taking(1, 5, 0, m.putNumber(10));
        int second = m.takingBehind(1, 9, 0, m.putNumber(20), first);
        ran("the first that takes it", m, m.attempt(m.raiseNumber(3), second, -1), "1 0 7 1 1 1 | 10");
        ran("the second one", m, m.attempt(m.raiseNumber(7), second, -1), "1 0 7 1 1 1 | 20");
        int again = m.taking(1, 9, 0, m.raiseNumber(4));
        int inner = m.attempt(m.raiseNumber(3), again, -1);
        ran("what a catch throws is not its TRY's to catch", m, inner, "2 4 5 0 2 1 |");
        ran("but of the TRY around it", m, m.attempt(inner, second, -1), "1 0 10 1 2 1 | 10");
    }

    private static void finallies() {
        Maker m = new Maker();
        int last = m.putNumber(77);
        ran("a finally, nothing thrown", m, m.attempt(m.skip(), -1, last), "1 0 3 1 0 1 | 77");
        ran("a finally, something thrown", m, m.attempt(m.raiseNumber(5), -1, last), "2 5 6 1 2 1 | 77");
        ran("a finally behind a catch", m, m.attempt(m.raiseNumber(5), m.taking(5, 5, 1, m.skip()), last),
            "1 0 7 1 1 1 | 77");
        ran("a finally behind a catch that throws", m,
            m.attempt(m.raiseNumber(5), m.taking(5, 5, 1, m.raiseNumber(6)), last), "2 6 9 1 3 1 | 77");
        ran("a finally that throws", m, m.attempt(m.raiseNumber(5), -1, m.raiseNumber(8)), "2 8 5 0 2 1 |");
    }

    private static void leaving() {
        Maker m = new Maker();
        int a = m.attempt(m.sequence(m.leave(), m.putNumber(1)), -1, m.putNumber(2));
        ran("RETURN runs the finally once", m, m.sequence(a, m.putNumber(3)), "1 0 3 1 0 1 | 2");
        a = m.attempt(m.raiseNumber(5), -1, m.leave());
        ran("RETURN in a finally: what was thrown is gone", m, m.sequence(a, m.putNumber(3)), "1 0 4 0 1 1 |");
        a = m.attempt(m.leave(), -1, m.raiseNumber(4));
        ran("a finally of a RETURN throws past its TRY", m, a, "2 4 2 0 1 1 |");
        a = m.attempt(m.stop(), -1, m.putNumber(2));
        ran("BREAK runs the finally", m, m.sequence(m.loop(m.number(1), a), m.putNumber(3)), "1 0 8 2 0 1 | 2 3");
        a = m.attempt(m.raiseNumber(5), -1, m.stop());
        ran("BREAK in a finally", m, m.sequence(m.loop(m.number(1), a), m.putNumber(3)), "1 0 9 1 1 1 | 3");
        a = m.attempt(m.raiseNumber(5), m.taking(0, 9, 0, m.stop()), m.putNumber(2));
        ran("BREAK in a catch", m, m.sequence(m.loop(m.number(1), a), m.putNumber(3)), "1 0 11 2 1 1 | 2 3");
    }

    private static void frames() {
        Maker m = new Maker();
        ran("the 13th frame is not made", m, m.call(0), "2 3 12 0 1 12 |");
        m = new Maker();
        m.bodyOf(1, m.sequence(m.putNumber(1), m.leave(), m.putNumber(2)));
        ran("RETURN ends the frame alone", m, m.sequence(m.call(1), m.putNumber(3)), "1 0 7 2 0 2 | 1 3");
        m = new Maker();
        m.bodyOf(1, m.call(2));
        ran("frames at once", m, m.sequence(m.call(1), m.call(2), m.call(3)), "1 0 9 0 0 3 |");
        m = new Maker();
        int depth = m.variable(0);
        int deeper = m.sequence(m.set(0, m.two(2, depth, m.number(1))),
            m.choose(m.two(6, depth, m.number(11)), m.call(1), m.skip()));
        m.bodyOf(1, deeper);
        m.bodyOf(0, m.call(1));
        m.x.lay(false);
        Check.due("12 frames are fine", m.x.run(0), 1);
        Check.due("12 frames", m.x.latest(5), 12);
        Check.due("nothing thrown", m.x.latest(4), 0);
    }

    private static void throwsThroughFrames() {
        Maker m = new Maker();
        m.bodyOf(2, m.raiseNumber(6));
        m.bodyOf(1, m.attempt(m.call(2), -1, m.putNumber(1)));
        int caught = m.taking(6, 6, 4, m.put(m.variable(4)));
        ran("thrown two frames up", m, m.attempt(m.sequence(m.call(1), m.putNumber(9)), caught, -1),
            "1 0 13 2 2 3 | 1 6");
        ran("a catch around no CALL", m, m.sequence(m.attempt(m.skip(), caught, -1), m.call(1)), "2 6 8 1 2 3 | 1");
        m = new Maker();
        int deep = m.attempt(m.call(0), m.taking(3, 3, 0, m.putNumber(5)), -1);
        ran("the 13th frame's throw is caught where it was called", m, deep, "1 0 28 1 1 12 | 5");
    }

    /** A finally that calls its own function must not lose what its own frame keeps. */
    private static void placesAreTheFrames() {
        Maker m = new Maker();
        int v = m.variable(0);
        int a = m.raise(m.two(2, v, m.number(10)));
        int fin = m.sequence(m.set(0, m.two(2, v, m.number(1))), m.choose(m.two(6, v, m.number(3)), inner(m), m.skip()));
        m.bodyOf(0, m.attempt(a, -1, fin));
        Check.due("laid down", m.x.lay(false) > 0, true);
        Check.due("badly", m.x.run(0), 2);
        Check.due("the first code is kept", m.x.latest(1), 10);
        Check.due("three frames", m.x.latest(5), 3);
        Check.due("what the inner ones threw", m.x.latest(3), 2);
        Check.due("the innermost first", m.x.out(0), 12);
        Check.due("then the next", m.x.out(1), 11);
    }

    private static int inner(Maker m) {
        return m.attempt(m.call(0), m.taking(0, 99, 1, m.put(m.variable(1))), -1);
    }

    /** The counting takes 2992 steps, a CALL of function 1 and its RET 2. */
    private static void steps() {
        Maker m = new Maker();
        int v = m.variable(0);
        int count = m.loop(m.two(6, v, m.number(332)), m.set(0, m.two(2, v, m.number(1))));
        int none = m.skip();
        int three = m.choose(m.number(1), none, none);
        int two = m.call(1);
        ran("2993 steps", m, count, "1 0 2993 0 0 1 |");
        ran("2999 steps", m, m.sequence(count, two, two, two), "1 0 2999 0 0 2 |");
        ran("the 3000th is the RET", m, m.sequence(count, two, two, three), "1 0 3000 0 0 2 |");
        ran("the 3001st would be the RET", m, m.sequence(count, two, three, three), "3 0 3000 0 0 2 |");
        ran("the 3000th throws", m, m.sequence(count, two, two, two, m.raiseNumber(4)), "2 4 3000 0 1 2 |");
        ran("the 3001st would throw", m, m.sequence(count, two, two, three, m.raiseNumber(4)), "3 0 3000 0 0 2 |");
        ran("the 3000th puts out", m, m.sequence(count, two, two, two, m.putNumber(4)), "3 0 3000 1 0 2 | 4");
        ran("the 3000th throws and it is caught", m,
            m.attempt(m.sequence(count, two, two, two, m.raiseNumber(4)), m.taking(4, 4, 5, none), -1),
            "3 0 3000 0 1 2 |");
        Check.due("the catch did not begin", m.x.variable(5), 0);
    }

    private static void outs() {
        Maker m = new Maker();
        int v = m.variable(0);
        int up = m.set(0, m.two(2, v, m.number(1)));
        m.bodyOf(0, m.loop(m.two(6, v, m.number(64)), m.sequence(up, m.put(v))));
        m.bodyOf(1, m.loop(m.two(6, v, m.number(70)), m.sequence(up, m.put(v))));
        m.bodyOf(2, m.putNumber(-5));
        m.x.lay(false);
        m.x.run(0);
        Check.due("64 ints", m.x.latest(3), 64);
        Check.due("the last one", m.x.out(63), 64);
        m.x.run(1);
        Check.due("over well all the same", m.x.latest(0), 1);
        Check.due("64 of 70 ints", m.x.latest(3), 64);
        Check.due("the first one", m.x.out(0), 1);
        Check.due("the 64th", m.x.out(63), 64);
        Check.due("the 65th is lost", m.x.out(64), 0);
        Check.due("the variable has gone on", m.x.variable(0), 70);
        m.x.run(2);
        Check.due("one int", m.x.out(0), -5);
        Check.due("none of the run before", m.x.out(1), 0);
    }

    private static void variables() {
        Maker m = new Maker();
        int all = m.set(0, m.number(100));
        for (int v = 1; v < 8; v++) {
            all = m.sequence(all, m.set(v, m.number(100 + v)));
        }
        m.bodyOf(0, all);
        m.bodyOf(1, m.set(3, m.two(2, m.variable(3), m.number(1))));
        m.x.lay(false);
        m.x.run(0);
        for (int v = 0; v < 8; v++) {
            Check.due("variable " + v, m.x.variable(v), 100 + v);
        }
        int[] none = {-1, 8, 9, MIN, MAX};
        for (int v : none) {
            Check.due("variable " + v, m.x.variable(v), 0);
        }
        m.x.run(1);
        Check.due("all were 0 before", m.x.variable(3), 1);
        Check.due("all others too", m.x.variable(4), 0);
    }

    private static void latestStays() {
        Maker m = new Maker();
        ran("first", m, m.sequence(m.set(2, m.number(6)), m.putNumber(7)), "1 0 5 1 0 1 | 7");
        int[] none = {-1, 6, MIN, MAX};
        for (int f : none) {
            Check.due("no function " + f, m.x.run(f), -1);
        }
        m.x.lay(true);
        m.bodyOf(0, m.raiseNumber(1));
        Check.same("stays", Check.report(m.x), "1 0 5 1 0 1 | 7");
        Check.due("its variable stays", m.x.variable(2), 6);
        Check.due("what is laid down is run, not the body", m.x.run(0), 1);
        m.x.lay(true);
        Check.due("the new one", m.x.run(0), 2);
        Check.due("its variable", m.x.variable(2), 0);
        Check.due("a function without a body", m.x.run(5), 1);
        Check.same("its report", Check.report(m.x), "1 0 1 0 0 1 |");
    }

    private static void wrongAsking() {
        Maker m = new Maker();
        ran("some", m, m.putNumber(7), "1 0 3 1 0 1 | 7");
        int[] wrongs = {-1, 6, 64, MIN, MAX};
        for (int i : wrongs) {
            Check.due("latest " + i, m.x.latest(i), -1);
            Check.due("out " + i, m.x.out(i), 0);
        }
    }
}
