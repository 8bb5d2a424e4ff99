import java.util.ArrayList;
import java.util.List;

/**
 * What the language means, without instructions and tables: it walks the nodes, and Java's own
 * exceptions carry what is thrown. It knows no steps, so it is asked only where a run is not too long.
 */
final class TreeWalker {
    private static final class Thrown extends RuntimeException {
        private static final long serialVersionUID = 1L;
        final int code;

        Thrown(int code) {
            super(null, null, false, false);
            this.code = code;
        }
    }

    private enum Way { ON, BREAK, RETURN }

    private final List<int[]> nodes;
    private final int[] bodies;
    private final boolean erased;
    final List<Integer> out = new ArrayList<>();
    final int[] variables = new int[8];
    int thrown;
    int mostFrames;
    private int frames;
    private int left = 1000000;

    TreeWalker(List<int[]> nodes, int[] bodies, boolean erased) {
        this.nodes = nodes;
        this.bodies = bodies;
        this.erased = erased;
    }

    /** Whether it is over well; the code goes to badCode if not. */
    boolean run(int function) {
        try {
            call(function);
            return true;
        } catch (Thrown t) {
            badCode = t.code;
            return false;
        }
    }

    int badCode;

    private Thrown fresh(int code) {
        thrown++;
        return new Thrown(code);
    }

    private void call(int function) {
        if (frames == 12) {
            throw fresh(3);
        }
        frames++;
        mostFrames = Math.max(mostFrames, frames);
        try {
            if (bodies[function] != -1) {
                walk(bodies[function]);
            }
        } finally {
            frames--;
        }
    }

    private int value(int number) {
        int[] n = nodes.get(number);
        if (n[0] == 0) {
            return n[1];
        }
        if (n[0] == 1) {
            return variables[n[1]];
        }
        int a = value(n[1]);
        int b = value(n[2]);
        switch (n[0]) {
            case 2:
                return a + b;
            case 3:
                return a - b;
            case 4:
                return a * b;
            case 5:
                if (b == 0) {
                    throw fresh(1);
                }
                return a / b;
            case 6:
                return a < b ? 1 : 0;
            default:
                return a == b ? 1 : 0;
        }
    }

    private Way walk(int number) {
        if (--left < 0) {
            throw new IllegalStateException("it does not end");
        }
        int[] n = nodes.get(number);
        switch (n[0]) {
            case 9:
                variables[n[1]] = value(n[2]);
                return Way.ON;
            case 10:
                int put = value(n[1]);
                if (out.size() < 64) {
                    out.add(put);
                }
                return Way.ON;
            case 11:
                Way first = walk(n[1]);
                return first == Way.ON ? walk(n[2]) : first;
            case 12:
                return walk(value(n[1]) != 0 ? n[2] : n[3]);
            case 13:
                while (value(n[1]) != 0) {
                    Way way = walk(n[2]);
                    if (way == Way.RETURN) {
                        return way;
                    }
                    if (way == Way.BREAK) {
                        break;
                    }
                    if (--left < 0) {
                        throw new IllegalStateException("it does not end");
                    }
                }
                return Way.ON;
            case 14:
                int code = value(n[1]);
                throw fresh(code == 0 ? 2 : code);
            case 15:
                call(n[1]);
                return Way.ON;
            case 16:
                return Way.RETURN;
            case 17:
                return Way.BREAK;
            case 18:
                return n[3] == -1 ? guarded(n) : withFinally(n);
            default:
                return Way.ON;
        }
    }

    private Way withFinally(int[] n) {
        Way way;
        try {
            way = guarded(n);
        } catch (Thrown t) {
            Way instead = walk(n[3]);
            if (instead != Way.ON) {
                return instead;
            }
            throw fresh(t.code);
        }
        Way instead = walk(n[3]);
        return instead == Way.ON ? way : instead;
    }

    private Way guarded(int[] n) {
        try {
            return walk(n[1]);
        } catch (Thrown t) {
            List<int[]> catches = new ArrayList<>();
            for (int c = erased ? -1 : n[2]; c != -1; c = nodes.get(c)[5]) {
                catches.add(0, nodes.get(c));
            }
            for (int[] c : catches) {
                if (c[1] <= t.code && t.code <= c[2]) {
                    variables[c[3]] = t.code;
                    return walk(c[4]);
                }
            }
            throw t;
        }
    }
}
