/** Makes nodes by their names; a node that can't be made ends the test. */
final class Maker {
    final UnwindMill x = new UnwindMill();

    private int made(int number) {
        if (number < 0) {
            throw new IllegalStateException("a node could not be made");
        }
        return number;
    }

    int number(int a) {
        return made(x.node(0, a, 0, 0, 0));
    }

    int variable(int a) {
        return made(x.node(1, a, 0, 0, 0));
    }

    /** Kinds 2 to 7. */
    int two(int kind, int a, int b) {
        return made(x.node(kind, a, b, 0, 0));
    }

    int skip() {
        return made(x.node(8, 0, 0, 0, 0));
    }

    int set(int v, int b) {
        return made(x.node(9, v, b, 0, 0));
    }

    int put(int a) {
        return made(x.node(10, a, 0, 0, 0));
    }

    int putNumber(int n) {
        return put(number(n));
    }

    int sequence(int... all) {
        int last = all[all.length - 1];
        for (int i = all.length - 2; i >= 0; i--) {
            last = made(x.node(11, all[i], last, 0, 0));
        }
        return last;
    }

    int choose(int a, int b, int c) {
        return made(x.node(12, a, b, c, 0));
    }

    int loop(int a, int b) {
        return made(x.node(13, a, b, 0, 0));
    }

    int raise(int a) {
        return made(x.node(14, a, 0, 0, 0));
    }

    int raiseNumber(int n) {
        return raise(number(n));
    }

    int call(int function) {
        return made(x.node(15, function, 0, 0, 0));
    }

    int leave() {
        return made(x.node(16, 0, 0, 0, 0));
    }

    int stop() {
        return made(x.node(17, 0, 0, 0, 0));
    }

    int attempt(int a, int b, int c) {
        return made(x.node(18, a, b, c, 0));
    }

    int taking(int from, int to, int v, int d) {
        return made(x.node(19, from, to, v, d));
    }

    int takingBehind(int from, int to, int v, int d, int e) {
        return made(x.catchBehind(from, to, v, d, e));
    }

    /** A sequence of a statement, n times, from few nodes. */
    int times(int statement, int n) {
        if (n == 1) {
            return statement;
        }
        int half = times(statement, n / 2);
        int twice = sequence(half, half);
        return n % 2 == 0 ? twice : sequence(twice, statement);
    }

    /** An expression of an odd number of nodes, each of which makes one instruction. */
    int tree(int size) {
        if (size == 1) {
            return number(1);
        }
        int half = (size - 1) / 2;
        if (half % 2 == 1) {
            int part = tree(half);
            return two(2, part, part);
        }
        // The smaller part is of use in the greater one again, so few nodes are made.
        int small = tree(half - 1);
        return two(2, small, two(2, small, number(1)));
    }

    /** A statement of exactly so many instructions, 1 at least, and hardly more nodes than that. */
    int filler(int instructions) {
        if (instructions == 1) {
            return call(0);
        }
        return instructions % 2 == 0 ? put(tree(instructions - 1)) : sequence(call(0), filler(instructions - 1));
    }

    /** A statement of exactly so many nodes, 1 at least, that makes no instruction. */
    int idle(int nodes) {
        if (nodes == 1) {
            return skip();
        }
        return nodes % 2 == 0 ? attempt(idle(nodes - 1), -1, -1) : times(skip(), (nodes + 1) / 2);
    }

    void bodyOf(int function, int statement) {
        Check.due("body(" + function + ", " + statement + ")", x.body(function, statement), true);
    }
}
