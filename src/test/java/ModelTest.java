import java.util.ArrayList;
import java.util.List;

/** Promises 2 to 13 on many made-up programs, compared with PlainMill and TreeWalker. */
public final class ModelTest {
    private static final int PROGRAMS = 6000;

    /** The same numbers each time. */
    private static final class Dice {
        private long state;

        Dice(long seed) {
            state = seed * 0x9E3779B97F4A7C15L + 1;
        }

        int below(int n) {
            state = state * 6364136223846793005L + 1442695040888963407L;
            return (int) ((state >>> 33) % n);
        }

        int of(List<Integer> all) {
            int recent = Math.min(all.size(), 6);
            return below(3) == 0 ? all.get(below(all.size())) : all.get(all.size() - 1 - below(recent));
        }
    }

    private final Dice dice;
    private final UnwindMill x = new UnwindMill();
    private final PlainMill plain = new PlainMill();
    private final List<Integer> expressions = new ArrayList<>();
    private final List<Integer> statements = new ArrayList<>();
    private final List<Integer> catches = new ArrayList<>();
    private final String name;

    static int tooLarge;
    static int ill;
    static int well;
    static int badly;
    static int tooLong;
    static int caught;
    static int mostRows;

    private ModelTest(int seed) {
        dice = new Dice(seed);
        name = "program " + seed + ": ";
    }

    public static void main(String[] args) {
        for (int seed = 0; seed < PROGRAMS; seed++) {
            new ModelTest(seed).play();
        }
        System.out.println(tooLarge + " too large, " + ill + " ill; " + well + " over well, " + badly + " badly, "
            + tooLong + " too long; " + caught + " times caught; at most " + mostRows + " rows");
        Check.due("all sorts were seen", tooLarge > 50 && ill > 50 && well > 500 && badly > 500 && tooLong > 50
            && caught > 500 && mostRows > 100, true);
        Check.end();
    }

    private void play() {
        make(0, dice.below(4) - 1);
        make(1, dice.below(8));
        make(8);
        int count = 12 + dice.below(70);
        for (int i = 0; i < count; i++) {
            makeSome();
        }
        for (int round = 0; round < 2; round++) {
            for (int f = 0; f < 6; f++) {
                if (dice.below(4) != 0) {
                    int s = f == 0 ? statements.get(statements.size() - 1) : dice.of(statements);
                    plain.bodies[f] = s;
                    Check.due(name + "body", x.body(f, s), true);
                }
            }
            compare(false);
            compare(true);
        }
    }

    private void make(int kind, int... parts) {
        int number = plain.add(kind, parts);
        int[] n = plain.nodes.get(number);
        int got = kind == 20 ? x.catchBehind(n[1], n[2], n[3], n[4], n[5]) : x.node(kind, n[1], n[2], n[3], n[4]);
        Check.due(name + "node of kind " + kind, got, number);
        (kind <= 7 ? expressions : kind <= 18 ? statements : catches).add(number);
    }

    private void makeSome() {
        int what = dice.below(44);
        if (what < 5) {
            make(0, dice.below(7) - 2);
        } else if (what < 8) {
            make(1, dice.below(3));
        } else if (what < 14) {
            make(2 + dice.below(6), dice.of(expressions), dice.of(expressions));
        } else if (what < 17) {
            make(9, dice.below(3), dice.of(expressions));
        } else if (what < 19) {
            make(10, dice.of(expressions));
        } else if (what < 23) {
            make(11, dice.of(statements), dice.of(statements));
        } else if (what < 25) {
            make(12, dice.of(expressions), dice.of(statements), dice.of(statements));
        } else if (what < 28) {
            make(13, dice.of(expressions), dice.of(statements));
        } else if (what < 30) {
            make(14, dice.of(expressions));
        } else if (what < 31) {
            make(15, dice.below(6));
        } else if (what < 32) {
            make(16);
        } else if (what < 33) {
            make(13, expressions.get(0), breaking());
        } else if (what < 37) {
            makeCatch();
        } else {
            int b = catches.isEmpty() || dice.below(3) == 0 ? -1 : dice.of(catches);
            make(18, dice.of(statements), b, dice.below(3) == 0 ? -1 : dice.of(statements));
        }
    }

    /** A TRY with a BREAK in its a, its catch or its finally; the plain BREAK is not left where others find it. */
    private int breaking() {
        make(17);
        int stop = statements.remove(statements.size() - 1);
        int where = dice.below(12);
        int other = dice.of(statements);
        if (where == 0) {
            return stop;
        }
        if (where == 1) {
            make(12, dice.of(expressions), stop, other);
        } else if (where < 5) {
            make(18, other, catches.isEmpty() ? -1 : dice.of(catches), stop);
        } else if (where < 8) {
            make(18, stop, catches.isEmpty() ? -1 : dice.of(catches), other);
        } else {
            make(19, dice.below(3) - 1, 1 + dice.below(4), dice.below(3), stop);
            int c = catches.remove(catches.size() - 1);
            make(18, other, c, dice.below(2) == 0 ? -1 : dice.of(statements));
        }
        int made = statements.get(statements.size() - 1);
        if (dice.below(4) != 0) {
            statements.remove(statements.size() - 1);
        }
        return made;
    }

    private void makeCatch() {
        boolean wide = dice.below(3) == 0;
        int from = wide ? -1000 : dice.below(5) - 2;
        int to = wide ? 1000 : from + dice.below(4) - (dice.below(6) == 0 ? 2 : 0);
        if (catches.isEmpty() || dice.below(2) == 0) {
            make(19, from, to, dice.below(3), dice.of(statements));
        } else {
            make(20, from, to, dice.below(3), dice.of(statements), dice.of(catches));
        }
    }

    private void compare(boolean erased) {
        int due = plain.lay(erased);
        Check.due(name + "lay", x.lay(erased), due);
        if (due < 0) {
            Check.due(name + "laid after it failed", x.laid(0), -1);
            tooLarge += due == -2 ? 1 : 0;
            ill += due == -3 ? 1 : 0;
            return;
        }
        Check.due(name + "laid 0", x.laid(0), due);
        Check.due(name + "laid 1", x.laid(1), plain.rows.size());
        Check.due(name + "laid 2", x.laid(2), plain.begun);
        Check.due(name + "laid 3", x.laid(3), plain.deepest);
        mostRows = Math.max(mostRows, plain.rows.size());
        for (int i = 0; i < due; i++) {
            Check.due(name + "instruction " + i, x.instruction(i, 0), plain.code.get(i).op);
            Check.due(name + "instruction " + i + "'s a", x.instruction(i, 1), plain.code.get(i).shown());
        }
        for (int i = 0; i < plain.rows.size(); i++) {
            for (int what = 0; what < 5; what++) {
                Check.due(name + "row " + i + ", " + what, x.row(i, what), plain.rows.get(i)[what]);
            }
        }
        for (int f = 0; f < 6; f++) {
            Check.due(name + "entry " + f, x.entry(f), plain.entries[f]);
            runBoth(f, erased);
        }
    }

    private void runBoth(int f, boolean erased) {
        plain.run(f);
        Check.due(name + "run " + f, x.run(f), plain.over);
        int[] due = {plain.over, plain.badCode, plain.steps, plain.out.size(), plain.thrown, plain.mostFrames};
        for (int what = 0; what < 6; what++) {
            Check.due(name + "latest " + what, x.latest(what), due[what]);
        }
        for (int i = 0; i < 65; i++) {
            Check.due(name + "out " + i, x.out(i), i < plain.out.size() ? plain.out.get(i) : 0);
        }
        for (int v = 0; v < 8; v++) {
            Check.due(name + "variable " + v, x.variable(v), plain.variables[v]);
        }
        well += plain.over == 1 ? 1 : 0;
        badly += plain.over == 2 ? 1 : 0;
        tooLong += plain.over == 3 ? 1 : 0;
        caught += plain.over == 1 && plain.thrown > 0 ? 1 : 0;
        if (plain.over != 3) {
            walk(f, erased);
        }
    }

    private void walk(int f, boolean erased) {
        TreeWalker walker = new TreeWalker(plain.nodes, plain.bodies, erased);
        Check.due(name + "walked " + f + " well", walker.run(f), x.latest(0) == 1);
        Check.due(name + "walked, code", x.latest(1), walker.badCode);
        Check.due(name + "walked, put out", x.latest(3), walker.out.size());
        Check.due(name + "walked, thrown", x.latest(4), walker.thrown);
        Check.due(name + "walked, frames", x.latest(5), walker.mostFrames);
        for (int i = 0; i < walker.out.size(); i++) {
            Check.due(name + "walked, out " + i, x.out(i), walker.out.get(i));
        }
        for (int v = 0; v < 8; v++) {
            Check.due(name + "walked, variable " + v, x.variable(v), walker.variables[v]);
        }
    }
}
