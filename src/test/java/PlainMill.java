import java.util.ArrayList;
import java.util.HashSet;
import java.util.List;
import java.util.Set;

/**
 * A second reading of the document, as plain as can be and by recursion: what is laid down carries
 * the sets that the document speaks of. It is for comparing, not for use.
 */
final class PlainMill {
    /** Laying down ended: TOO_LARGE or ILL. */
    private static final class Ended extends RuntimeException {
        private static final long serialVersionUID = 1L;
        final int answer;

        Ended(int answer) {
            super(null, null, false, false);
            this.answer = answer;
        }
    }

    /** Where something is laid down. Lists are from the inside out. */
    private static final class Place {
        List<Try> around = new ArrayList<>();
        List<Try> over = new ArrayList<>();
        Set<Try> madeByA = new HashSet<>();
        Loop loop;

        Place copy() {
            Place p = new Place();
            p.around.addAll(around);
            p.over.addAll(over);
            p.madeByA.addAll(madeByA);
            p.loop = loop;
            return p;
        }
    }

    private static final class Try {
        int node;
        int last;
        Place place;
        Target end;
        List<int[]> handlers = new ArrayList<>();

        int k(PlainMill m) {
            int k = 0;
            for (Try t : place.over) {
                k += m.nodes.get(t.node)[3] == -1 ? 0 : 1;
            }
            return k;
        }
    }

    private static final class Loop {
        List<Try> around;
        Target behind = new Target();
    }

    private static final class Target {
        int at = -1;
    }

    static final class Instruction {
        int op;
        int arg;
        int function;
        Target goal;
        List<Try> around;
        Set<Try> madeByA;

        int shown() {
            return goal == null ? arg : goal.at;
        }
    }

    /** A node is its kind and a, b, c, d, e. */
    final List<int[]> nodes = new ArrayList<>();
    final int[] bodies = {-1, -1, -1, -1, -1, -1};
    List<Instruction> code = new ArrayList<>();
    List<int[]> rows = new ArrayList<>();
    int[] entries = new int[6];
    int begun;
    int deepest;
    private List<Try> begunTries;
    private List<Try> doneTries;
    private int function;
    private boolean erased;

    int add(int kind, int... parts) {
        int[] node = new int[6];
        node[0] = kind;
        node[5] = -1;
        System.arraycopy(parts, 0, node, 1, parts.length);
        nodes.add(node);
        return nodes.size() - 1;
    }

    int lay(boolean without) {
        code = new ArrayList<>();
        rows = new ArrayList<>();
        begun = 0;
        deepest = -1;
        begunTries = new ArrayList<>();
        erased = without;
        try {
            for (function = 0; function < 6; function++) {
                entries[function] = code.size();
                layFunction();
            }
            makeTable();
        } catch (Ended e) {
            code = new ArrayList<>();
            rows = new ArrayList<>();
            return e.answer;
        }
        return code.size();
    }

    private void layFunction() {
        doneTries = new ArrayList<>();
        if (bodies[function] != -1) {
            node(bodies[function], new Place());
        }
        emit(14, 0, null, new Place());
        while (!doneTries.isEmpty()) {
            apart(doneTries.remove(0));
        }
    }

    private void emit(int op, int arg, Target goal, Place p) {
        if (code.size() == 1000) {
            throw new Ended(-2);
        }
        Instruction i = new Instruction();
        i.op = op;
        i.arg = arg;
        i.goal = goal;
        i.function = function;
        i.around = p.around;
        i.madeByA = p.madeByA;
        code.add(i);
    }

    private Target here() {
        Target t = new Target();
        t.at = code.size();
        return t;
    }

    private void node(int number, Place p) {
        if (++begun == 2001) {
            throw new Ended(-2);
        }
        int[] n = nodes.get(number);
        int kind = n[0];
        if (kind <= 1) {
            emit(kind, n[1], null, p);
        } else if (kind <= 7) {
            node(n[1], p);
            node(n[2], p);
            emit(kind, 0, null, p);
        } else if (kind == 9) {
            node(n[2], p);
            emit(8, n[1], null, p);
        } else if (kind == 10) {
            node(n[1], p);
            emit(9, 0, null, p);
        } else if (kind == 11) {
            node(n[1], p);
            node(n[2], p);
        } else if (kind == 14) {
            node(n[1], p);
            emit(12, 0, null, p);
        } else if (kind == 15) {
            emit(13, n[1], null, p);
        } else if (kind != 8) {
            harder(kind, number, n, p);
        }
    }

    private void harder(int kind, int number, int[] n, Place p) {
        if (kind == 12) {
            Target l = new Target();
            Target m = new Target();
            node(n[1], p);
            emit(10, 0, l, p);
            node(n[2], p);
            emit(11, 0, m, p);
            l.at = code.size();
            node(n[3], p);
            m.at = code.size();
        } else if (kind == 13) {
            Target l = here();
            Place in = p.copy();
            in.loop = new Loop();
            in.loop.around = p.around;
            node(n[1], p);
            emit(10, 0, in.loop.behind, p);
            node(n[2], in);
            emit(11, 0, l, p);
            in.loop.behind.at = code.size();
        } else if (kind == 16) {
            emit(14, 0, null, leave(p, p.around));
        } else if (kind == 17) {
            if (p.loop == null) {
                throw new Ended(-3);
            }
            List<Try> within = new ArrayList<>(p.around);
            within.removeAll(p.loop.around);
            emit(11, 0, p.loop.behind, leave(p, within));
        } else {
            Try t = new Try();
            t.node = number;
            t.last = erased ? -1 : n[2];
            t.place = p;
            begunTries.add(t);
            Place in = aroundPlace(t);
            in.madeByA.add(t);
            node(n[1], in);
            finallyOf(t, p);
            t.end = here();
            doneTries.add(t);
        }
    }

    /** The finallies of some TRYs; the place where it goes on behind them. */
    private Place leave(Place from, List<Try> tries) {
        Place at = from;
        for (Try t : tries) {
            if (nodes.get(t.node)[3] != -1) {
                finallyOf(t, from);
                at = t.place.copy();
                at.madeByA = from.madeByA;
            }
        }
        return at;
    }

    private Place aroundPlace(Try t) {
        Place p = t.place.copy();
        p.around.add(0, t);
        p.over.add(0, t);
        return p;
    }

    private void finallyOf(Try t, Place maker) {
        if (nodes.get(t.node)[3] != -1) {
            Place p = t.place.copy();
            p.over.add(0, t);
            p.madeByA = maker.madeByA;
            node(nodes.get(t.node)[3], p);
        }
    }

    private void apart(Try t) {
        List<Integer> catches = new ArrayList<>();
        for (int c = t.last; c != -1; c = nodes.get(c)[5]) {
            catches.add(0, c);
        }
        for (int c : catches) {
            t.handlers.add(new int[] {c, code.size()});
            Place p = aroundPlace(t);
            emit(8, nodes.get(c)[3], null, p);
            node(nodes.get(c)[4], p);
            finallyOf(t, t.place);
            emit(11, 0, t.end, t.place);
        }
        if (nodes.get(t.node)[3] != -1) {
            t.handlers.add(new int[] {-1, code.size()});
            deepest = Math.max(deepest, t.k(this));
            emit(15, t.k(this), null, t.place);
            finallyOf(t, t.place);
            emit(16, t.k(this), null, t.place);
        }
    }

    private void makeTable() {
        for (int over = 200; over >= 0; over--) {
            for (Try t : begunTries) {
                if (t.place.over.size() == over) {
                    rowsOf(t);
                }
            }
        }
        if (rows.size() > 300) {
            throw new Ended(-2);
        }
    }

    private void rowsOf(Try t) {
        for (int[] h : t.handlers) {
            int i = 0;
            while (i < code.size()) {
                int first = i;
                while (i < code.size() && code.get(i).function == code.get(first).function && takes(t, h[0], code.get(i))) {
                    i++;
                }
                if (i > first) {
                    int[] c = h[0] == -1 ? new int[] {0, Integer.MIN_VALUE, Integer.MAX_VALUE} : nodes.get(h[0]);
                    rows.add(new int[] {first, i, h[1], c[1], c[2]});
                } else {
                    i++;
                }
            }
        }
    }

    private static boolean takes(Try t, int catchNode, Instruction i) {
        return i.around.contains(t) && (catchNode == -1 || i.madeByA.contains(t));
    }

    // The machine.

    private static final class Frame {
        int at;
        List<Integer> pile = new ArrayList<>();
        int[] places = new int[200];

        int take() {
            return pile.remove(pile.size() - 1);
        }
    }

    int over;
    int badCode;
    int steps;
    int thrown;
    int mostFrames;
    List<Integer> out = new ArrayList<>();
    int[] variables = new int[8];
    private List<Frame> frames;

    void run(int f) {
        over = 0;
        badCode = 0;
        steps = 0;
        thrown = 0;
        mostFrames = 0;
        out = new ArrayList<>();
        variables = new int[8];
        frames = new ArrayList<>();
        enter(f);
        while (over == 0) {
            if (steps == 3000) {
                over = 3;
            } else {
                steps++;
                step(frames.get(frames.size() - 1));
            }
        }
    }

    private void enter(int f) {
        Frame frame = new Frame();
        frame.at = entries[f];
        frames.add(frame);
        mostFrames = Math.max(mostFrames, frames.size());
    }

    private void step(Frame f) {
        Instruction i = code.get(f.at);
        int next = f.at + 1;
        if (i.op == 0) {
            f.pile.add(i.arg);
        } else if (i.op == 1) {
            f.pile.add(variables[i.arg]);
        } else if (i.op <= 7) {
            int b = f.take();
            int a = f.take();
            if (i.op == 5 && b == 0) {
                raise(1);
                return;
            }
            f.pile.add(i.op == 2 ? a + b : i.op == 3 ? a - b : i.op == 4 ? a * b : i.op == 5 ? a / b
                : i.op == 6 ? (a < b ? 1 : 0) : a == b ? 1 : 0);
        } else if (i.op == 8) {
            variables[i.arg] = f.take();
        } else if (i.op == 9) {
            int value = f.take();
            if (out.size() < 64) {
                out.add(value);
            }
        } else if (i.op == 10) {
            next = f.take() == 0 ? i.goal.at : next;
        } else if (i.op == 11) {
            next = i.goal.at;
        } else if (i.op == 15) {
            f.places[i.arg] = f.take();
        } else {
            stepAway(f, i);
            return;
        }
        f.at = next;
    }

    private void stepAway(Frame f, Instruction i) {
        if (i.op == 12) {
            int a = f.take();
            raise(a == 0 ? 2 : a);
        } else if (i.op == 16) {
            raise(f.places[i.arg]);
        } else if (i.op == 13) {
            if (frames.size() == 12) {
                raise(3);
            } else {
                enter(i.arg);
            }
        } else {
            frames.remove(frames.size() - 1);
            if (frames.isEmpty()) {
                over = 1;
            } else {
                frames.get(frames.size() - 1).at++;
            }
        }
    }

    private void raise(int what) {
        thrown++;
        while (!frames.isEmpty()) {
            Frame f = frames.get(frames.size() - 1);
            for (int[] r : rows) {
                if (r[0] <= f.at && f.at < r[1] && r[3] <= what && what <= r[4]) {
                    f.pile.clear();
                    f.pile.add(what);
                    f.at = r[2];
                    return;
                }
            }
            frames.remove(frames.size() - 1);
        }
        over = 2;
        badCode = what;
    }
}
