import java.util.ArrayList;
import java.util.List;

/** All promises on made-up runs of 512 calls, right and wrong ones mixed, compared call by call with PlainMill. */
public final class CallsTest {
    private static final int RUNS = 1500;
    private static final int CALLS = 512;
    private static final int[] ODD = {-1, -2, 150, 149, 1000, Integer.MIN_VALUE, Integer.MAX_VALUE, 0, 8, 6};
    /** As in NodeEdgeTest: the sorts of each kind's parts. */
    private static final String[] PARTS = {"n", "v", "ee", "ee", "ee", "ee", "ee", "ee", "", "ve", "e", "ss", "ess",
        "es", "e", "f", "", "", "sCS", "nnvs", "nnvsc"};

    private final UnwindMill x = new UnwindMill();
    private final PlainMill plain = new PlainMill();
    private final String name;
    private long state;
    private boolean stands;
    private boolean ran;
    /** How likely a wrong part is, one in so many. */
    private final int care;

    static int refused;
    static int taken;
    static int laidDown;
    static int thrown;

    private CallsTest(int seed) {
        name = "run " + seed + ": ";
        state = seed * 0x9E3779B97F4A7C15L + 77;
        care = 3 + below(20);
    }

    public static void main(String[] args) {
        for (int seed = 0; seed < RUNS; seed++) {
            CallsTest run = new CallsTest(seed);
            for (int i = 0; i < CALLS; i++) {
                run.call();
            }
        }
        System.out.println(taken + " nodes, " + refused + " refused; laid down " + laidDown + " times; "
            + thrown + " calls that throw");
        Check.due("all sorts were seen", taken > 10000 && refused > 10000 && laidDown > 1000 && thrown > 1000, true);
        Check.end();
    }

    private int below(int n) {
        state = state * 6364136223846793005L + 1442695040888963407L;
        return (int) ((state >>> 33) % n);
    }

    private int odd() {
        return below(4) == 0 ? ODD[below(ODD.length)] : below(plain.nodes.size() + 3) - 1;
    }

    /** A number around 0 .. n - 1, now and then far away. */
    private int near(int n) {
        return below(12) == 0 ? ODD[below(ODD.length)] : below(n + 2) - 1;
    }

    private void call() {
        int which = below(24);
        if (which < 12) {
            callNode();
        } else if (which < 14) {
            callBody();
        } else if (which == 14) {
            callLay();
        } else if (which < 17) {
            callRun();
        } else {
            ask(which);
        }
    }

    private void callNode() {
        int kind = below(25) == 0 ? ODD[below(ODD.length)] : below(22);
        int[] parts = new int[5];
        boolean known = kind >= 0 && kind <= 20;
        for (int i = 0; i < 5; i++) {
            boolean matters = known && i < PARTS[kind].length();
            parts[i] = matters ? somePart(PARTS[kind].charAt(i)) : odd();
        }
        boolean fine = known && plain.nodes.size() < 150 && (kind != 20 || below(2) == 0);
        boolean byBehind = kind == 20 && fine;
        for (int i = 0; fine && i < PARTS[kind].length(); i++) {
            fine = fits(PARTS[kind].charAt(i), parts[i]);
        }
        int got = byBehind ? x.catchBehind(parts[0], parts[1], parts[2], parts[3], parts[4])
            : x.node(kind, parts[0], parts[1], parts[2], parts[3]);
        if (fine) {
            parts[4] = kind == 20 ? parts[4] : -1;
            Check.due(name + "node of kind " + kind, got, plain.add(kind, parts));
            taken++;
        } else {
            Check.due(name + "refused node of kind " + kind, got, -1);
            refused++;
        }
    }

    private int somePart(char sort) {
        if (below(care) == 0) {
            return odd();
        }
        if (sort == 'n') {
            return below(9) - 3;
        }
        if (sort == 'v' || sort == 'f') {
            return below(sort == 'v' ? 8 : 6);
        }
        if (sort < 'a' && below(3) == 0) {
            return -1;
        }
        List<Integer> right = new ArrayList<>();
        for (int i = Math.max(0, plain.nodes.size() - 40); i < plain.nodes.size(); i++) {
            if (fits(sort, i)) {
                right.add(i);
            }
        }
        return right.isEmpty() ? -1 : right.get(below(right.size()));
    }

    private boolean fits(char sort, int part) {
        boolean there = part >= 0 && part < plain.nodes.size();
        int kind = there ? plain.nodes.get(part)[0] : -1;
        switch (sort) {
            case 'v':
                return part >= 0 && part < 8;
            case 'f':
                return part >= 0 && part < 6;
            case 'e':
                return kind >= 0 && kind < 8;
            case 's':
                return kind >= 8 && kind < 19;
            case 'S':
                return part == -1 || kind >= 8 && kind < 19;
            case 'c':
                return kind >= 19;
            case 'C':
                return part == -1 || kind >= 19;
            default:
                return true;
        }
    }

    private void callBody() {
        int f = near(6);
        int s = below(3) == 0 ? odd() : somePart('S');
        boolean fine = f >= 0 && f < 6 && fits('S', s);
        Check.due(name + "body(" + f + ", " + s + ")", x.body(f, s), fine);
        if (fine) {
            plain.bodies[f] = s;
        }
    }

    private void callLay() {
        boolean erased = below(3) == 0;
        int due = plain.lay(erased);
        Check.due(name + "lay", x.lay(erased), due);
        stands = due > 0;
        laidDown += stands ? 1 : 0;
    }

    private void callRun() {
        int f = near(6);
        if (!stands || f < 0 || f > 5) {
            Check.due(name + "run refused", x.run(f), -1);
            return;
        }
        plain.run(f);
        ran = true;
        Check.due(name + "run", x.run(f), plain.over);
    }

    private void ask(int which) {
        int what = near(5);
        switch (which) {
            case 17:
                int[] laid = {plain.code.size(), plain.rows.size(), plain.begun, plain.deepest};
                Check.due(name + "laid", x.laid(what), stands && what >= 0 && what < 4 ? laid[what] : -1);
                break;
            case 18:
                askInstruction(near(plain.code.size()), near(2));
                break;
            case 19:
                int f = near(6);
                Check.due(name + "entry", x.entry(f), stands && f >= 0 && f < 6 ? plain.entries[f] : -1);
                break;
            case 20:
                askRow(near(plain.rows.size()), what);
                break;
            case 21:
                what = near(6);
                int[] latest = {plain.over, plain.badCode, plain.steps, plain.out.size(), plain.thrown, plain.mostFrames};
                Check.due(name + "latest", x.latest(what), ran && what >= 0 && what < 6 ? latest[what] : -1);
                break;
            case 22:
                int i = near(below(3) == 0 ? 64 : plain.out.size());
                Check.due(name + "out", x.out(i), i >= 0 && i < plain.out.size() ? plain.out.get(i) : 0);
                break;
            default:
                int v = near(8);
                Check.due(name + "variable", x.variable(v), ran && v >= 0 && v < 8 ? plain.variables[v] : 0);
        }
    }

    private void askInstruction(int i, int what) {
        String due;
        if (i < 0 || i >= plain.code.size()) {
            due = "IndexOutOfBoundsException";
        } else if (what != 0 && what != 1) {
            due = "IllegalArgumentException";
        } else {
            due = "" + (what == 0 ? plain.code.get(i).op : plain.code.get(i).shown());
        }
        thrown += due.length() > 20 ? 1 : 0;
        Check.same(name + "instruction " + i, Check.instruction(x, i, what), due);
    }

    private void askRow(int i, int what) {
        String due;
        if (i < 0 || i >= plain.rows.size()) {
            due = "IndexOutOfBoundsException";
        } else if (what < 0 || what > 4) {
            due = "IllegalArgumentException";
        } else {
            due = "" + plain.rows.get(i)[what];
        }
        thrown += due.length() > 20 ? 1 : 0;
        Check.same(name + "row " + i, Check.row(x, i, what), due);
    }
}
