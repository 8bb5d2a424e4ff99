/** The boundaries that the terms and promises 1 to 4 name: each sentence has a test of its own. */
public final class NodeEdgeTest {
    private static final int MIN = Integer.MIN_VALUE;
    private static final int MAX = Integer.MAX_VALUE;

    /**
     * What each kind's parts are, as the terms tell them: a number, a variable, a function, an
     * expression, a statement, a catch; in capitals where none is possible, too.
     */
    private static final String[] PARTS = {"n", "v", "ee", "ee", "ee", "ee", "ee", "ee", "", "ve", "e", "ss", "ess",
        "es", "e", "f", "", "", "sCS", "nnvs", "nnvsc"};

    public static void main(String[] args) {
        nothingInNew();
        nodesAtMost();
        fullStaysUsable();
        variables();
        functionsToCall();
        partsOfTheRightSort();
        partsThatAreThere();
        noneWhereItIsTold();
        partsThatDoNotMatter();
        noSuchKind();
        refusedNodeChangesNothing();
        refusedCatchChangesNothing();
        behindAnother();
        bodyOfWhichFunction();
        bodyIsWhichStatement();
        bodyIsNone();
        whatIsLaidDownStays();
        refusedBodyChangesNothing();
        callsOfOneObject();
        Check.end();
    }

    /** One node of each kind, numbered as its kind. */
    private static UnwindMill oneOfEach() {
        UnwindMill x = new UnwindMill();
        for (int kind = 0; kind <= 20; kind++) {
            make(x, kind, right(kind));
        }
        return x;
    }

    /** Parts of a kind that are right in an object with one node of each kind below it. */
    private static int[] right(int kind) {
        int[] parts = new int[5];
        for (int i = 0; i < PARTS[kind].length(); i++) {
            char sort = PARTS[kind].charAt(i);
            parts[i] = sort == 's' || sort == 'S' ? 8 : sort == 'c' ? 19 : sort == 'C' ? -1 : 0;
        }
        return parts;
    }

    private static int make(UnwindMill x, int kind, int[] p) {
        return kind == 20 ? x.catchBehind(p[0], p[1], p[2], p[3], p[4]) : x.node(kind, p[0], p[1], p[2], p[3]);
    }

    private static boolean fits(char sort, int part) {
        boolean lower = sort >= 'a';
        switch (lower ? sort : (char) (sort - 'A' + 'a')) {
            case 'v':
                return part >= 0 && part <= 7;
            case 'f':
                return part >= 0 && part <= 5;
            case 'e':
                return part >= 0 && part <= 7;
            case 's':
                return part >= 8 && part <= 18 || !lower && part == -1;
            case 'c':
                return part == 19 || part == 20 || !lower && part == -1;
            default:
                return true;
        }
    }

    private static void nothingInNew() {
        Check.sentence("No nodes, no bodies; nothing is laid down, nothing was run.");
        UnwindMill x = new UnwindMill();
        String same = Check.all(x);
        Check.due("laid", x.laid(0), -1);
        Check.due("latest", x.latest(0), -1);
        Check.due("run", x.run(0), -1);
        Check.due("latest after a run that was refused", x.latest(0), -1);
        for (int kind = 2; kind <= 20; kind++) {
            if (PARTS[kind].indexOf('e') >= 0 || PARTS[kind].indexOf('s') >= 0) {
                Check.due("a part that is not there, kind " + kind, make(x, kind, new int[5]), -1);
            }
        }
        Check.due("a body that is not there", x.body(0, 0), false);
        Check.same("all of it is as it was", Check.all(x), same);
        Check.due("no bodies", x.lay(false), 6);
        Check.due("no node was laid down", x.laid(2), 0);
        Check.due("the first node's number", x.node(0, 0, 0, 0, 0), 0);
    }

    private static void nodesAtMost() {
        Check.sentence("NODES 0, 1, .., 149 at most");
        for (int kind = 0; kind <= 20; kind++) {
            UnwindMill x = oneOfEach();
            for (int i = 21; i < 149; i++) {
                Check.due("node " + i, x.node(i % 2 * 8, 0, 0, 0, 0), i);
            }
            Check.due("the 150th, kind " + kind, make(x, kind, right(kind)), 149);
            Check.due("the 151st, kind " + kind, make(x, kind, right(kind)), -1);
            Check.due("once more, kind " + kind, make(x, kind, right(kind)), -1);
            Check.due("of another kind", x.node(8, 0, 0, 0, 0), -1);
            Check.due("the last one is there", x.body(0, 149), kind >= 8 && kind <= 18);
            Check.due("150 is not", x.body(0, 150), false);
        }
    }

    private static void fullStaysUsable() {
        Check.sentence("NONE, and nothing happens, if .. there are 150");
        Maker m = new Maker();
        int last = m.number(0);
        for (int i = 1; i < 149; i++) {
            last = m.number(i);
        }
        int all = m.put(last);
        m.bodyOf(0, all);
        m.x.lay(false);
        m.x.run(0);
        String same = Check.all(m.x);
        Check.due("a statement too many", m.x.node(10, 3, 0, 0, 0), -1);
        Check.due("a TRY too many", m.x.node(18, all, -1, all, 0), -1);
        Check.due("a catch too many", m.x.node(19, 1, 1, 1, all), -1);
        Check.same("nothing happens", Check.all(m.x), same);
        m.x.lay(false);
        m.x.run(0);
        Check.same("nor to the last node", Check.all(m.x), same);
        Check.due("what it puts out", m.x.out(0), 148);
    }

    private static void variables() {
        Check.sentence("There are VARIABLES 0 .. 7");
        int[] wrong = {-1, 8, 9, 15, MIN, MAX};
        for (int v = 0; v <= 7; v++) {
            Maker m = new Maker();
            int set = m.set(v, m.number(30 + v));
            int caught = m.attempt(m.raise(m.variable(v)), m.taking(30, 37, v, m.put(m.variable(v))), -1);
            m.bodyOf(0, m.sequence(set, caught));
            m.x.lay(false);
            m.x.run(0);
            Check.due("variable " + v, m.x.variable(v), 30 + v);
            Check.due("as a catch's", m.x.out(0), 30 + v);
            for (int other = 0; other <= 7; other++) {
                Check.due("another one", m.x.variable(other), other == v ? 30 + v : 0);
            }
        }
        for (int v : wrong) {
            UnwindMill x = oneOfEach();
            Check.due("VARIABLE " + v, x.node(1, v, 0, 0, 0), -1);
            Check.due("SET " + v, x.node(9, v, 0, 0, 0), -1);
            Check.due("CATCH into " + v, x.node(19, 0, 0, v, 8), -1);
            Check.due("CATCH behind into " + v, x.catchBehind(0, 0, v, 8, 19), -1);
            Check.due("nothing happens", x.node(8, 0, 0, 0, 0), 21);
        }
    }

    private static void functionsToCall() {
        Check.sentence("FUNCTIONS 0 .. 5");
        for (int f = 1; f <= 5; f++) {
            Maker m = new Maker();
            m.bodyOf(f, m.putNumber(60 + f));
            m.bodyOf(0, m.call(f));
            m.x.lay(false);
            m.x.run(0);
            Check.same("CALL " + f, Check.report(m.x), "1 0 5 1 0 2 | " + (60 + f));
        }
        UnwindMill x = new UnwindMill();
        Check.due("CALL 0", x.node(15, 0, 0, 0, 0), 0);
        int[] wrong = {-1, 6, 7, MIN, MAX};
        for (int f : wrong) {
            Check.due("CALL " + f, x.node(15, f, 0, 0, 0), -1);
            Check.due("nothing happens", x.body(0, 1), false);
        }
        Check.due("the next node", x.node(15, 5, 0, 0, 0), 1);
    }

    private static void partsOfTheRightSort() {
        Check.sentence("Parts must be nodes of the right sort");
        for (int kind = 0; kind <= 20; kind++) {
            for (int i = 0; i < PARTS[kind].length(); i++) {
                for (int part = -3; part <= 20; part++) {
                    tryPart(kind, i, part);
                }
            }
        }
    }

    private static void partsThatAreThere() {
        Check.sentence("nodes of the right sort that are there");
        int[] notThere = {21, 22, 149, 150, 151, 1000, MAX, MIN, -2};
        for (int kind = 0; kind <= 20; kind++) {
            for (int i = 0; i < PARTS[kind].length(); i++) {
                for (int part : notThere) {
                    tryPart(kind, i, part);
                }
            }
        }
        UnwindMill x = new UnwindMill();
        Check.due("of itself", x.node(11, 0, 0, 0, 0), -1);
        Check.due("a first one", x.node(8, 0, 0, 0, 0), 0);
        Check.due("of itself and another", x.node(11, 0, 1, 0, 0), -1);
        Check.due("of the last one that is there", x.node(11, 0, 0, 0, 0), 1);
        Check.due("of the last two", x.node(11, 0, 1, 0, 0), 2);
    }

    /** A node with right parts but for one. */
    private static void tryPart(int kind, int which, int part) {
        UnwindMill x = oneOfEach();
        int[] parts = right(kind);
        parts[which] = part;
        boolean fine = fits(PARTS[kind].charAt(which), part);
        String what = "kind " + kind + " with " + part + " as part " + which;
        Check.due(what, make(x, kind, parts), fine ? 21 : -1);
        Check.due(what + ", the next node", x.node(8, 0, 0, 0, 0), fine ? 22 : 21);
    }

    private static void noneWhereItIsTold() {
        Check.sentence("or -1 where none is told to be possible");
        UnwindMill x = oneOfEach();
        Check.due("TRY without a catch", x.node(18, 8, -1, 8, 0), 21);
        Check.due("TRY without a finally", x.node(18, 8, 19, -1, 0), 22);
        Check.due("TRY with neither", x.node(18, 8, -1, -1, 0), 23);
        Check.due("TRY without a statement", x.node(18, -1, 19, 8, 0), -1);
        Check.due("TRY, -2 as its catch", x.node(18, 8, -2, 8, 0), -1);
        Check.due("TRY, -2 as its finally", x.node(18, 8, 19, -2, 0), -1);
        Check.due("IF without an else", x.node(12, 0, 8, -1, 0), -1);
        Check.due("SEQUENCE of one", x.node(11, 8, -1, 0, 0), -1);
        Check.due("CATCH without a statement", x.node(19, 0, 0, 0, -1), -1);
        Check.due("CATCH into none", x.node(19, 0, 0, -1, 8), -1);
        Check.due("CATCH behind none", x.catchBehind(0, 0, 0, 8, -1), -1);
        Check.due("NUMBER -1 is a number", x.node(0, -1, 0, 0, 0), 24);
        Check.due("codes from -1 to -1 are codes", x.node(19, -1, -1, 0, 8), 25);
    }

    private static void partsThatDoNotMatter() {
        Check.sentence("parts that the kind has not do not matter");
        int[] any = {-2, -1, 1, 21, 150, MIN, MAX};
        for (int kind = 0; kind <= 19; kind++) {
            for (int value : any) {
                UnwindMill x = oneOfEach();
                UnwindMill twin = oneOfEach();
                int[] parts = right(kind);
                for (int i = PARTS[kind].length(); i < 4; i++) {
                    parts[i] = value;
                }
                Check.due("kind " + kind + " and " + value, make(x, kind, parts), 21);
                make(twin, kind, right(kind));
                Check.same("it makes the same", laidDown(x, kind), laidDown(twin, kind));
            }
        }
    }

    /** What node 21 makes in a WHILE. */
    private static String laidDown(UnwindMill x, int kind) {
        int statement = kind <= 7 ? x.node(10, 21, 0, 0, 0) : kind <= 18 ? 21 : x.node(18, 8, 21, -1, 0);
        x.body(0, x.node(13, 0, statement, 0, 0));
        x.lay(false);
        return Check.all(x);
    }

    private static void noSuchKind() {
        Check.sentence("there is no such kind (20 wants more)");
        UnwindMill x = oneOfEach();
        int[] wrong = {-2, -1, 20, 21, 22, 100, MIN, MAX};
        for (int kind : wrong) {
            Check.due("kind " + kind, x.node(kind, 0, 0, 0, 8), -1);
            Check.due("kind " + kind + " of other parts", x.node(kind, 8, 8, 8, 19), -1);
        }
        Check.due("kind 0, the first", x.node(0, 0, 0, 0, 8), 21);
        Check.due("kind 19, the last", x.node(19, 0, 0, 0, 8), 22);
    }

    /** A program that has run, so that there is all that might change. */
    private static Maker afterRun() {
        Maker m = new Maker();
        int caught = m.taking(1, 9, 2, m.put(m.variable(2)));
        m.bodyOf(0, m.attempt(m.raiseNumber(6), caught, m.set(7, m.number(5))));
        m.bodyOf(5, m.putNumber(3));
        m.x.lay(false);
        m.x.run(0);
        return m;
    }

    private static void refusedNodeChangesNothing() {
        Check.sentence("NONE, and nothing happens, if that is not so");
        Maker m = afterRun();
        String same = Check.all(m.x);
        int next = m.skip() + 1;
        int[][] wrong = {{2, 0, next, 0, 0}, {1, 8, 0, 0, 0}, {9, -1, 0, 0, 0}, {15, 6, 0, 0, 0}, {18, next, -1, -1, 0},
            {19, 1, 1, 1, next}, {20, 1, 1, 1, 1}, {21, 0, 0, 0, 0}, {-1, 0, 0, 0, 0}, {10, -1, 0, 0, 0}};
        for (int[] w : wrong) {
            Check.due("node of kind " + w[0], m.x.node(w[0], w[1], w[2], w[3], w[4]), -1);
            Check.same("what is laid down and was run", Check.all(m.x), same);
            Check.due("no node is there", m.x.body(4, next), false);
        }
        Check.due("the next node", m.skip(), next);
        m.x.lay(false);
        m.x.run(0);
        Check.same("the bodies are as they were", Check.all(m.x), same);
    }

    private static void refusedCatchChangesNothing() {
        Check.sentence("A CATCH behind another one (kind 20): its number; NONE, and nothing happens, if it can't be.");
        Maker m = afterRun();
        String same = Check.all(m.x);
        int statement = m.skip();
        int before = m.taking(1, 1, 1, statement);
        int next = before + 1;
        int[][] wrong = {{-1, statement, before}, {8, statement, before}, {1, -1, before}, {1, before, before},
            {1, next, before}, {1, statement, -1}, {1, statement, statement}, {1, statement, next}, {1, statement, MAX},
            {1, statement, MIN}, {1, MAX, before}, {1, MIN, before}, {MAX, statement, before}, {MIN, statement, before}};
        for (int[] w : wrong) {
            Check.due("into " + w[0] + ", " + w[1] + ", behind " + w[2], m.x.catchBehind(1, 1, w[0], w[1], w[2]), -1);
            Check.same("what is laid down and was run", Check.all(m.x), same);
            Check.due("no catch is there", m.x.node(18, statement, next, -1, 0), -1);
        }
        Check.due("the next node", m.x.catchBehind(1, 1, 7, statement, before), next);
        m.x.lay(false);
        m.x.run(0);
        Check.same("the bodies are as they were", Check.all(m.x), same);
    }

    private static void behindAnother() {
        Check.sentence("A TRY's catches are asked from the one that is behind none on: its b is the last one.");
        Maker m = new Maker();
        int first = m.taking(1, 9, 0, m.putNumber(11));
        int second = m.takingBehind(5, 19, 0, m.putNumber(12), first);
        int third = m.takingBehind(15, 29, 0, m.putNumber(13), second);
        int other = m.takingBehind(1, 99, 0, m.putNumber(14), first);
        int[][] due = {{first, 5, 11}, {first, 10, 0}, {second, 9, 11}, {second, 10, 12}, {second, 20, 0},
            {third, 9, 11}, {third, 19, 12}, {third, 20, 13}, {third, 30, 0}, {other, 9, 11}, {other, 10, 14}};
        for (int[] d : due) {
            m.bodyOf(0, m.attempt(m.raiseNumber(d[1]), d[0], -1));
            m.x.lay(false);
            Check.due("code " + d[1] + " is caught", m.x.run(0), d[2] == 0 ? 2 : 1);
            Check.due("by the catch", m.x.out(0), d[2]);
        }
        Maker chain = new Maker();
        int none = chain.skip();
        int last = chain.taking(0, 0, 0, none);
        for (int i = 1; i < 148; i++) {
            last = chain.takingBehind(i, i, 0, none, last);
        }
        chain.bodyOf(0, chain.attempt(none, last, -1));
        Check.due("148 catches, a node each, and a STORE and a JUMP each", chain.x.lay(false), 6 + 2 * 148);
        Check.due("the next one can't be", chain.x.catchBehind(1, 1, 0, none, last), -1);
    }

    private static void bodyOfWhichFunction() {
        Check.sentence("false if there is no such function");
        int[] wrong = {-2, -1, 6, 7, MIN, MAX};
        Maker m = new Maker();
        int statement = m.call(0);
        for (int f : wrong) {
            Check.due("body of " + f, m.x.body(f, statement), false);
            Check.due("no body of " + f, m.x.body(f, -1), false);
        }
        Check.due("no function has got one", m.x.lay(false), 6);
        for (int f = 0; f <= 5; f++) {
            Check.due("body of " + f, m.x.body(f, statement), true);
            Check.due("one more has one", m.x.lay(false), 7 + f);
        }
    }

    private static void bodyIsWhichStatement() {
        Check.sentence("false if .. it is no statement");
        int[] wrong = {-2, 21, 22, 149, 150, MIN, MAX};
        for (int node = 0; node <= 20; node++) {
            UnwindMill x = oneOfEach();
            Check.due("a node of kind " + node, x.body(0, node), node >= 8 && node <= 18);
            x.lay(false);
            Check.due("whether it is laid down", x.laid(2) != 0, node >= 8 && node <= 18);
        }
        UnwindMill x = oneOfEach();
        for (int node : wrong) {
            Check.due("node " + node, x.body(0, node), false);
        }
        Check.due("the next node", x.node(8, 0, 0, 0, 0), 21);
        Check.due("the last one that is there", x.body(0, 21), true);
        Check.due("the first one that is not", x.body(0, 22), false);
    }

    private static void bodyIsNone() {
        Check.sentence("A statement is the body of a function, or none (-1) is: true");
        Maker m = new Maker();
        Check.due("none where there was none", m.x.body(3, -1), true);
        m.bodyOf(3, m.call(1));
        Check.due("with a body", m.x.lay(false), 7);
        Check.due("none instead", m.x.body(3, -1), true);
        Check.due("RET alone", m.x.lay(false), 6);
        Check.due("-2 is not none", m.x.body(3, -2), false);
    }

    private static void whatIsLaidDownStays() {
        Check.sentence("(What is laid down stays.)");
        Maker m = afterRun();
        String same = Check.all(m.x);
        Check.due("another body", m.x.body(0, m.skip()), true);
        Check.same("it stays", Check.all(m.x), same);
        Check.due("none", m.x.body(0, -1), true);
        Check.due("none for another", m.x.body(5, -1), true);
        Check.same("it stays still", Check.all(m.x), same);
        m.x.run(0);
        Check.same("and it is run", Check.all(m.x), same);
        Check.due("until it is laid down anew", m.x.lay(false), 6);
    }

    private static void refusedBodyChangesNothing() {
        Check.sentence("false if there is no such function, or it is no statement");
        Maker m = afterRun();
        String same = Check.all(m.x);
        int number = m.number(1);
        int statement = m.skip();
        int[][] wrong = {{0, number}, {0, -2}, {0, 150}, {0, statement + 1}, {5, number}, {-1, statement}, {6, statement},
            {6, -1}, {-1, -1}, {MAX, statement}, {MIN, statement}};
        for (int[] w : wrong) {
            Check.due("body(" + w[0] + ", " + w[1] + ")", m.x.body(w[0], w[1]), false);
            Check.same("what is laid down and was run", Check.all(m.x), same);
        }
        m.x.lay(false);
        m.x.run(0);
        Check.same("the bodies are as they were", Check.all(m.x), same);
    }

    private static void callsOfOneObject() {
        Check.sentence("An object is used for at most 512 calls after it has been made");
        UnwindMill x = new UnwindMill();
        x.node(0, 1, 0, 0, 0);
        x.node(10, 0, 0, 0, 0);
        for (int i = 2; i < 150; i++) {
            x.node(11, i - 1, 1, 0, 0);
        }
        x.body(0, 149);
        for (int call = 151; call < 509; call += 2) {
            Check.due("lay, call " + (call + 1), x.lay(call % 4 == 1), 6 + 2 * 149);
            Check.due("run, call " + (call + 2), x.run(0), 1);
        }
        Check.due("the 510th", x.run(0), 1);
        Check.due("the 511th", x.latest(2), 2 * 149 + 1);
        Check.due("the 512th", x.out(63), 1);
    }
}
