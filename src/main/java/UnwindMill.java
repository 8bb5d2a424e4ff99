import java.util.Arrays;

/**
 * A small language with exceptions, catch and finally, laid down as a row of instructions and a
 * table that is looked into only when something is thrown; and the machine that runs it.
 */
public final class UnwindMill {
    public static final int NONE = -1;
    public static final int TOO_LARGE = -2;
    public static final int ILL = -3;

    private static final int MOST_NODES = 150;
    private static final int FUNCTIONS = 6;
    private static final int VARIABLES = 8;
    private static final int MOST_INSTRUCTIONS = 1000;
    private static final int MOST_BEGUN = 2000;
    private static final int MOST_ROWS = 300;
    private static final int ROW_WIDTH = 5;
    private static final int MOST_FRAMES = 12;
    private static final int MOST_STEPS = 3000;
    private static final int MOST_OUT = 64;
    private static final int REPORT_WIDTH = 6;
    private static final int LEAST_INT = 0x80000000;
    private static final int GREATEST_INT = 0x7fffffff;

    private final Tree tree;
    private final Code code;
    private final Layer layer;
    private final Machine machine;

    public UnwindMill() {
        tree = new Tree();
        code = new Code();
        layer = new Layer(tree, code);
        machine = new Machine(code);
    }

    public int node(int kind, int a, int b, int c, int d) {
        // Kind 20 is refused with this e, since it wants a catch there.
        return tree.add(kind, a, b, c, d, NONE);
    }

    public int catchBehind(int a, int b, int c, int d, int e) {
        return tree.add(Kind.CATCH_BEHIND, a, b, c, d, e);
    }

    public boolean body(int function, int statement) {
        return tree.setBody(function, statement);
    }

    public int lay(boolean erased) {
        return layer.layDown(erased);
    }

    public int laid(int what) {
        if (!code.stands()) {
            return NONE;
        }
        switch (what) {
            case 0:
                return code.count;
            case 1:
                return code.rowCount;
            case 2:
                return code.begun;
            case 3:
                return code.deepestKeep;
            default:
                return NONE;
        }
    }

    public int instruction(int i, int what) throws IndexOutOfBoundsException, IllegalArgumentException {
        if (i < 0 || i >= code.count) {
            throw new IndexOutOfBoundsException("no such instruction");
        }
        if (what != 0 && what != 1) {
            throw new IllegalArgumentException("what is 0 or 1");
        }
        return what == 0 ? code.ops[i] : code.args[i];
    }

    public int entry(int function) {
        return code.stands() && isFunction(function) ? code.entries[function] : NONE;
    }

    public int row(int i, int what) throws IndexOutOfBoundsException, IllegalArgumentException {
        if (i < 0 || i >= code.rowCount) {
            throw new IndexOutOfBoundsException("no such row");
        }
        if (what < 0 || what >= ROW_WIDTH) {
            throw new IllegalArgumentException("what is 0 to 4");
        }
        return code.rows[i * ROW_WIDTH + what];
    }

    public int run(int function) {
        return code.stands() && isFunction(function) ? machine.start(code.entries[function]) : NONE;
    }

    public int latest(int what) {
        return machine.ran && what >= 0 && what < REPORT_WIDTH ? machine.report[what] : NONE;
    }

    public int out(int i) {
        return i >= 0 && i < machine.report[Machine.PUT_OUT] ? machine.outs[i] : 0;
    }

    public int variable(int v) {
        return isVariable(v) ? machine.variables[v] : 0;
    }

    private static boolean isFunction(int function) {
        return function >= 0 && function < FUNCTIONS;
    }

    private static boolean isVariable(int v) {
        return v >= 0 && v < VARIABLES;
    }

    /** The kinds of nodes; those of expressions bear the numbers of their instructions. */
    private static final class Kind {
        static final int NUMBER = 0;
        static final int VARIABLE = 1;
        static final int LAST_EXPRESSION = 7;
        static final int SKIP = 8;
        static final int SET = 9;
        static final int OUT = 10;
        static final int SEQUENCE = 11;
        static final int IF = 12;
        static final int WHILE = 13;
        static final int THROW = 14;
        static final int CALL = 15;
        static final int RETURN = 16;
        static final int BREAK = 17;
        static final int TRY = 18;
        static final int CATCH = 19;
        static final int CATCH_BEHIND = 20;
    }

    /** The numbers of the instructions. */
    private static final class Op {
        static final int PUSH = 0;
        static final int LOAD = 1;
        static final int ADD = 2;
        static final int SUB = 3;
        static final int MUL = 4;
        static final int DIV = 5;
        static final int LESS = 6;
        static final int STORE = 8;
        static final int PUT = 9;
        static final int ZERO = 10;
        static final int JUMP = 11;
        static final int RAISE = 12;
        static final int CALL = 13;
        static final int RET = 14;
        static final int KEEP = 15;
        static final int AGAIN = 16;
    }

    /** The nodes that there are, and the functions' bodies. A part's number is always below its node's. */
    private static final class Tree {
        static final int A = 0;
        static final int B = 1;
        static final int C = 2;
        static final int D = 3;
        static final int E = 4;
        private static final int PARTS = 5;

        private static final int FREE = 0;
        private static final int VAR = 1;
        private static final int FUN = 2;
        private static final int EXPR = 3;
        private static final int STAT = 4;
        private static final int CTCH = 5;
        private static final int STAT_OR_NONE = 6;
        private static final int CTCH_OR_NONE = 7;

        /** Of what sort each kind's parts must be, five to a kind. */
        private static final int[] SORTS = {
            FREE, FREE, FREE, FREE, FREE,
            VAR, FREE, FREE, FREE, FREE,
            EXPR, EXPR, FREE, FREE, FREE,
            EXPR, EXPR, FREE, FREE, FREE,
            EXPR, EXPR, FREE, FREE, FREE,
            EXPR, EXPR, FREE, FREE, FREE,
            EXPR, EXPR, FREE, FREE, FREE,
            EXPR, EXPR, FREE, FREE, FREE,
            FREE, FREE, FREE, FREE, FREE,
            VAR, EXPR, FREE, FREE, FREE,
            EXPR, FREE, FREE, FREE, FREE,
            STAT, STAT, FREE, FREE, FREE,
            EXPR, STAT, STAT, FREE, FREE,
            EXPR, STAT, FREE, FREE, FREE,
            EXPR, FREE, FREE, FREE, FREE,
            FUN, FREE, FREE, FREE, FREE,
            FREE, FREE, FREE, FREE, FREE,
            FREE, FREE, FREE, FREE, FREE,
            STAT, CTCH_OR_NONE, STAT_OR_NONE, FREE, FREE,
            FREE, FREE, VAR, STAT, FREE,
            FREE, FREE, VAR, STAT, CTCH,
        };

        private final int[] kinds = new int[MOST_NODES];
        private final int[] parts = new int[MOST_NODES * PARTS];
        final int[] bodies = new int[FUNCTIONS];
        private int count;

        Tree() {
            Arrays.fill(bodies, NONE);
        }

        int add(int kind, int a, int b, int c, int d, int e) {
            if (kind < 0 || kind > Kind.CATCH_BEHIND || count >= MOST_NODES) {
                return NONE;
            }
            int sorts = kind * PARTS;
            boolean right = fits(SORTS[sorts], a) && fits(SORTS[sorts + B], b)
                    && fits(SORTS[sorts + C], c) && fits(SORTS[sorts + D], d) && fits(SORTS[sorts + E], e);
            if (!right) {
                return NONE;
            }
            int first = count * PARTS;
            kinds[count] = kind;
            parts[first] = a;
            parts[first + B] = b;
            parts[first + C] = c;
            parts[first + D] = d;
            parts[first + E] = e;
            count++;
            return count - 1;
        }

        boolean setBody(int function, int statement) {
            if (!isFunction(function) || !fits(STAT_OR_NONE, statement)) {
                return false;
            }
            bodies[function] = statement;
            return true;
        }

        int kindOf(int node) {
            return node >= 0 && node < count ? kinds[node] : NONE;
        }

        int part(int node, int which) {
            return node >= 0 && node < count ? parts[node * PARTS + which] : NONE;
        }

        /** The catch of a TRY that is asked next after one of them, the first one after NONE. */
        int catchAfter(int tryNode, int asked) {
            int next = NONE;
            int at = part(tryNode, B);
            for (int left = count; left > 0 && at != NONE && at != asked; left--) {
                next = at;
                at = part(at, E);
            }
            return next;
        }

        private boolean fits(int sort, int part) {
            int kind = kindOf(part);
            switch (sort) {
                case VAR:
                    return isVariable(part);
                case FUN:
                    return isFunction(part);
                case EXPR:
                    return kind >= Kind.NUMBER && kind <= Kind.LAST_EXPRESSION;
                case STAT:
                    return kind >= Kind.SKIP && kind <= Kind.TRY;
                case CTCH:
                    return kind >= Kind.CATCH;
                case STAT_OR_NONE:
                    return part == NONE || kind >= Kind.SKIP && kind <= Kind.TRY;
                case CTCH_OR_NONE:
                    return part == NONE || kind >= Kind.CATCH;
                default:
                    return true;
            }
        }
    }

    /** What is laid down: the instructions and the table. */
    private static final class Code {
        final int[] ops = new int[MOST_INSTRUCTIONS];
        final int[] args = new int[MOST_INSTRUCTIONS];
        /** In which context (see Scopes) each instruction was made. */
        final int[] contexts = new int[MOST_INSTRUCTIONS];
        final int[] entries = new int[FUNCTIONS];
        final int[] rows = new int[MOST_ROWS * ROW_WIDTH];
        int count;
        int rowCount;
        int begun;
        int deepestKeep;

        void clear() {
            count = 0;
            rowCount = 0;
            begun = 0;
            deepestKeep = NONE;
        }

        /** Every function has its RET at least, so there are instructions whenever all is laid down. */
        boolean stands() {
            return count > 0;
        }

        /** The first row that takes a code thrown at an instruction, or NONE. */
        int rowFor(int at, int thrown) {
            for (int i = 0; i < rowCount; i++) {
                int first = i * ROW_WIDTH;
                boolean inStretch = rows[first] <= at && at < rows[first + 1];
                if (inStretch && rows[first + 3] <= thrown && thrown <= rows[first + 4]) {
                    return i;
                }
            }
            return NONE;
        }
    }

    /**
     * The TRYs and WHILEs that were begun, by numbers; a TRY node that is laid down twice is two of
     * them. A CONTEXT is a scope with a part of it, in one int: it says where something is laid down.
     * A scope's number is above that of each scope that it is in.
     */
    private static final class Scopes {
        static final int BODY = 0;
        static final int CATCHES = 1;
        static final int FINALLY = 2;
        /** The scope, and the context, of what no TRY and no WHILE is about. */
        static final int OUTSIDE = 0;
        private static final int MOST_SCOPES = MOST_BEGUN + 1;

        /** The context that a scope itself is in. */
        final int[] outers = new int[MOST_SCOPES];
        /** The node of a TRY, NONE for a WHILE. */
        final int[] tries = new int[MOST_SCOPES];
        final int[] finallies = new int[MOST_SCOPES];
        /** The innermost WHILE that what is in a scope is in, or OUTSIDE. */
        final int[] loops = new int[MOST_SCOPES];
        /** How many TRYs are over a scope, and how many with a finally. */
        final int[] overs = new int[MOST_SCOPES];
        final int[] keeps = new int[MOST_SCOPES];
        /** The instruction behind a scope: a TRY's E, a WHILE's M. */
        final int[] ends = new int[MOST_SCOPES];
        /** For the scopes begun after the looked-at one: in which part of it they are, or NONE. */
        private final int[] parts = new int[MOST_SCOPES];
        private int looked;
        private int count;

        void clear() {
            tries[OUTSIDE] = NONE;
            finallies[OUTSIDE] = NONE;
            looked = OUTSIDE;
            count = 1;
        }

        static int within(int scope, int part) {
            return scope << 2 | part;
        }

        static int scopeOf(int context) {
            return context >> 2;
        }

        static int partOf(int context) {
            return context & 3;
        }

        int openTry(int context, int node, int finallyNode) {
            int scope = open(context);
            tries[scope] = node;
            finallies[scope] = finallyNode;
            loops[scope] = loops[scopeOf(context)];
            return scope;
        }

        int openLoop(int context) {
            int scope = open(context);
            tries[scope] = NONE;
            finallies[scope] = NONE;
            loops[scope] = scope;
            return scope;
        }

        /** There is room for all, since each scope is a node that was begun. */
        private int open(int context) {
            if (count < MOST_SCOPES) {
                count++;
            }
            int scope = count - 1;
            int outer = scopeOf(context);
            outers[scope] = context;
            overs[scope] = overs[outer] + (tries[outer] == NONE ? 0 : 1);
            keeps[scope] = keeps[outer] + (finallies[outer] == NONE ? 0 : 1);
            return scope;
        }

        /** The innermost TRY with a finally around a context, of those that are in a scope, or NONE. */
        int finallyAround(int context, int inside) {
            int at = context;
            for (int left = count; left > 0 && scopeOf(at) > inside; left--) {
                if (finallies[scopeOf(at)] != NONE && partOf(at) != FINALLY) {
                    return scopeOf(at);
                }
                at = outers[scopeOf(at)];
            }
            return NONE;
        }

        /** A scope is looked at; one pass tells the parts, since no scope is before one that it is in. */
        void lookAt(int scope) {
            if (scope == looked) {
                return;
            }
            looked = scope;
            for (int i = scope + 1; i < count; i++) {
                parts[i] = partLookedAt(outers[i]);
            }
        }

        /** In which part of the looked-at scope a context is, or NONE if it is not in it. */
        int partLookedAt(int context) {
            int scope = scopeOf(context);
            if (scope < looked) {
                return NONE;
            }
            return scope == looked ? partOf(context) : parts[scope];
        }
    }

    /** The nodes that are begun and not yet ended, the innermost last: a pile instead of recursion. */
    private static final class Work {
        /** All nodes that may be begun, and one TRY that is begun again for what it has apart. */
        private static final int MOST_OPEN = MOST_BEGUN + 1;

        final int[] nodes = new int[MOST_OPEN];
        final int[] contexts = new int[MOST_OPEN];
        /** What is next to be done for a node. */
        final int[] steps = new int[MOST_OPEN];
        /** What a node has to remember from one step to a later one. */
        final int[] marks = new int[MOST_OPEN];
        int open;

        void push(int node, int context, int step) {
            if (open < MOST_OPEN) {
                nodes[open] = node;
                contexts[open] = context;
                steps[open] = step;
                marks[open] = NONE;
                open++;
            }
        }

        void pop() {
            if (open > 0) {
                open--;
            }
        }
    }

    /** The places where catches and finallies take what is thrown, in the table's order. */
    private static final class Handlers {
        /** Each has two instructions at least. */
        private static final int MOST_HANDLERS = MOST_INSTRUCTIONS / 2 + 1;

        final int[] scopes = new int[MOST_HANDLERS];
        /** The node of a catch, NONE for a finally. */
        final int[] catches = new int[MOST_HANDLERS];
        final int[] targets = new int[MOST_HANDLERS];
        int count;

        void add(int scope, int catchNode, int target, int[] overs) {
            if (count >= MOST_HANDLERS) {
                return;
            }
            int at = count;
            for (; at > 0 && comesBefore(scope, scopes[at - 1], overs); at--) {
                scopes[at] = scopes[at - 1];
                catches[at] = catches[at - 1];
                targets[at] = targets[at - 1];
            }
            scopes[at] = scope;
            catches[at] = catchNode;
            targets[at] = target;
            count++;
        }

        private static boolean comesBefore(int scope, int other, int[] overs) {
            return overs[scope] > overs[other] || overs[scope] == overs[other] && scope < other;
        }
    }

    /** Lays the functions down. */
    private static final class Layer {
        private static final int FINE = 0;
        /** Far above what 2000 nodes can need. */
        private static final int MOST_TURNS = 1000000;

        /** The steps of a TRY that make what it has apart; those before them make the rest. */
        private static final int APART_CATCH = 3;
        private static final int APART_FINALLY = 4;
        private static final int APART_JUMP = 5;
        private static final int APART_ANY = 6;

        private final Tree tree;
        private final Code code;
        private final Scopes scopes = new Scopes();
        private final Work work = new Work();
        private final Handlers handlers = new Handlers();
        private final int[] done = new int[MOST_BEGUN];
        private int doneCount;
        private boolean erased;
        private int verdict;

        Layer(Tree tree, Code code) {
            this.tree = tree;
            this.code = code;
        }

        int layDown(boolean withoutCatches) {
            code.clear();
            scopes.clear();
            work.open = 0;
            handlers.count = 0;
            erased = withoutCatches;
            verdict = FINE;
            for (int f = 0; f < FUNCTIONS && verdict == FINE; f++) {
                layFunction(f);
            }
            for (int h = 0; h < handlers.count && verdict == FINE; h++) {
                addRows(h);
            }
            if (verdict != FINE) {
                code.clear();
                return verdict;
            }
            settleGoals();
            return code.count;
        }

        private void layFunction(int function) {
            code.entries[function] = code.count;
            doneCount = 0;
            int bodyNode = tree.bodies[function];
            if (bodyNode != NONE) {
                begin(bodyNode, Scopes.OUTSIDE);
                takeTurns();
            }
            emit(Op.RET, 0, Scopes.OUTSIDE);
            // TRYs that are laid down here are set down in the same row, so it grows; it has an end.
            for (int i = 0; i < MOST_BEGUN && i < doneCount && verdict == FINE; i++) {
                int scope = done[i];
                work.push(scopes.tries[scope], Scopes.within(scope, Scopes.CATCHES), APART_CATCH);
                takeTurns();
            }
        }

        /** One step of the innermost node at a time, until none is open. */
        private void takeTurns() {
            for (int turn = 0; turn < MOST_TURNS && work.open > 0 && verdict == FINE; turn++) {
                int top = work.open - 1;
                int node = work.nodes[top];
                int step = work.steps[top];
                work.steps[top] = step + 1;
                switch (tree.kindOf(node)) {
                    case Kind.IF:
                        turnIf(top, node, step);
                        break;
                    case Kind.WHILE:
                        turnWhile(top, node, step);
                        break;
                    case Kind.RETURN:
                        turnReturn(top);
                        break;
                    case Kind.BREAK:
                        turnBreak(top);
                        break;
                    case Kind.TRY:
                        if (step < APART_CATCH) {
                            turnTry(top, node, step);
                        } else {
                            turnApart(top, step);
                        }
                        break;
                    default:
                        turnPlain(top, node, step);
                }
            }
        }

        /** A node that is its parts and at most one instruction behind them. */
        private void turnPlain(int top, int node, int step) {
            int kind = tree.kindOf(node);
            int a = tree.part(node, Tree.A);
            switch (kind) {
                case Kind.NUMBER:
                case Kind.VARIABLE:
                    finish(top, kind, a);
                    break;
                case Kind.SKIP:
                    work.pop();
                    break;
                case Kind.SET:
                    partsThen(top, step, tree.part(node, Tree.B), NONE, Op.STORE, a);
                    break;
                case Kind.OUT:
                    partsThen(top, step, a, NONE, Op.PUT, 0);
                    break;
                case Kind.SEQUENCE:
                    partsThen(top, step, a, tree.part(node, Tree.B), NONE, 0);
                    break;
                case Kind.THROW:
                    partsThen(top, step, a, NONE, Op.RAISE, 0);
                    break;
                case Kind.CALL:
                    finish(top, Op.CALL, a);
                    break;
                default:
                    partsThen(top, step, a, tree.part(node, Tree.B), kind, 0);
            }
        }

        private void partsThen(int top, int step, int first, int second, int op, int arg) {
            if (step == 0) {
                begin(first, work.contexts[top]);
            } else if (step == 1 && second != NONE) {
                begin(second, work.contexts[top]);
            } else if (op == NONE) {
                work.pop();
            } else {
                finish(top, op, arg);
            }
        }

        private void turnIf(int top, int node, int step) {
            int context = work.contexts[top];
            int here = code.count;
            switch (step) {
                case 0:
                    begin(tree.part(node, Tree.A), context);
                    break;
                case 1:
                    work.marks[top] = here;
                    emit(Op.ZERO, 0, context);
                    begin(tree.part(node, Tree.B), context);
                    break;
                case 2:
                    emit(Op.JUMP, 0, context);
                    setGoal(work.marks[top], code.count);
                    work.marks[top] = here;
                    begin(tree.part(node, Tree.C), context);
                    break;
                default:
                    setGoal(work.marks[top], here);
                    work.pop();
            }
        }

        private void turnWhile(int top, int node, int step) {
            if (step == 0) {
                work.contexts[top] = Scopes.within(scopes.openLoop(work.contexts[top]), Scopes.BODY);
                work.marks[top] = code.count;
                begin(tree.part(node, Tree.A), work.contexts[top]);
                return;
            }
            int context = work.contexts[top];
            int loop = Scopes.scopeOf(context);
            if (step == 1) {
                emit(Op.ZERO, behind(loop), context);
                begin(tree.part(node, Tree.B), context);
            } else {
                finish(top, Op.JUMP, work.marks[top]);
                scopes.ends[loop] = code.count;
            }
        }

        private void turnReturn(int top) {
            int scope = scopes.finallyAround(work.contexts[top], Scopes.OUTSIDE);
            if (scope == NONE) {
                finish(top, Op.RET, 0);
            } else {
                leave(top, scope);
            }
        }

        private void turnBreak(int top) {
            int context = work.contexts[top];
            int loop = scopes.loops[Scopes.scopeOf(context)];
            if (loop == Scopes.OUTSIDE) {
                verdict = ILL;
                return;
            }
            int scope = scopes.finallyAround(context, loop);
            if (scope == NONE) {
                finish(top, Op.JUMP, behind(loop));
            } else {
                leave(top, scope);
            }
        }

        /** A RETURN or BREAK goes out of a TRY: what it makes from here on has around it what the TRY has. */
        private void leave(int top, int scope) {
            work.contexts[top] = scopes.outers[scope];
            begin(scopes.finallies[scope], Scopes.within(scope, Scopes.FINALLY));
        }

        private void turnTry(int top, int node, int step) {
            if (step == 0) {
                int opened = scopes.openTry(work.contexts[top], node, tree.part(node, Tree.C));
                work.contexts[top] = Scopes.within(opened, Scopes.BODY);
                begin(tree.part(node, Tree.A), work.contexts[top]);
                return;
            }
            int scope = Scopes.scopeOf(work.contexts[top]);
            if (step == 1) {
                beginFinally(scope);
            } else {
                scopes.ends[scope] = code.count;
                setDone(scope);
                work.pop();
            }
        }

        private void setDone(int scope) {
            if (doneCount < MOST_BEGUN) {
                done[doneCount] = scope;
                doneCount++;
            }
        }

        private void turnApart(int top, int step) {
            int scope = Scopes.scopeOf(work.contexts[top]);
            switch (step) {
                case APART_CATCH:
                    beginCatch(top, scope);
                    break;
                case APART_FINALLY:
                    beginFinally(scope);
                    break;
                case APART_JUMP:
                    emit(Op.JUMP, scopes.ends[scope], scopes.outers[scope]);
                    work.steps[top] = APART_CATCH;
                    break;
                case APART_ANY:
                    beginAny(scope);
                    break;
                default:
                    emit(Op.AGAIN, scopes.keeps[scope], scopes.outers[scope]);
                    work.pop();
            }
        }

        private void beginCatch(int top, int scope) {
            int next = erased ? NONE : tree.catchAfter(scopes.tries[scope], work.marks[top]);
            if (next == NONE) {
                work.steps[top] = APART_ANY;
                return;
            }
            work.marks[top] = next;
            handlers.add(scope, next, code.count, scopes.overs);
            emit(Op.STORE, tree.part(next, Tree.C), work.contexts[top]);
            begin(tree.part(next, Tree.D), work.contexts[top]);
        }

        private void beginAny(int scope) {
            if (scopes.finallies[scope] == NONE) {
                work.pop();
                return;
            }
            int place = scopes.keeps[scope];
            handlers.add(scope, NONE, code.count, scopes.overs);
            emit(Op.KEEP, place, scopes.outers[scope]);
            code.deepestKeep = Math.max(code.deepestKeep, place);
            begin(scopes.finallies[scope], Scopes.within(scope, Scopes.FINALLY));
        }

        private void beginFinally(int scope) {
            if (scopes.finallies[scope] != NONE) {
                begin(scopes.finallies[scope], Scopes.within(scope, Scopes.FINALLY));
            }
        }

        private void begin(int node, int context) {
            if (code.begun >= MOST_BEGUN) {
                verdict = TOO_LARGE;
                return;
            }
            code.begun++;
            work.push(node, context, 0);
        }

        private void finish(int top, int op, int arg) {
            emit(op, arg, work.contexts[top]);
            work.pop();
        }

        private void emit(int op, int arg, int context) {
            if (verdict != FINE) {
                return;
            }
            if (code.count >= MOST_INSTRUCTIONS) {
                verdict = TOO_LARGE;
                return;
            }
            code.ops[code.count] = op;
            code.args[code.count] = arg;
            code.contexts[code.count] = context;
            code.count++;
        }

        private void setGoal(int at, int goal) {
            if (at >= 0 && at < code.count) {
                code.args[at] = goal;
            }
        }

        /** A goal behind a WHILE is not known while the WHILE is laid down: till the end it is told below 0. */
        private static int behind(int loop) {
            return -loop;
        }

        private void settleGoals() {
            for (int i = 0; i < code.count; i++) {
                boolean goes = code.ops[i] == Op.ZERO || code.ops[i] == Op.JUMP;
                if (goes && code.args[i] < 0) {
                    code.args[i] = scopes.ends[-code.args[i]];
                }
            }
        }

        private void addRows(int handler) {
            scopes.lookAt(handlers.scopes[handler]);
            int first = NONE;
            for (int i = 0; i <= code.count; i++) {
                boolean taken = i < code.count && takesFrom(handler, i);
                if (taken && first == NONE) {
                    first = i;
                } else if (!taken && first != NONE) {
                    addRow(handler, first, i);
                    first = NONE;
                }
            }
        }

        /** A catch takes from its TRY's a alone, a finally from all that its TRY is around. */
        private boolean takesFrom(int handler, int i) {
            int part = scopes.partLookedAt(code.contexts[i]);
            return part == Scopes.BODY || part == Scopes.CATCHES && handlers.catches[handler] == NONE;
        }

        private void addRow(int handler, int first, int behind) {
            if (code.rowCount >= MOST_ROWS) {
                verdict = TOO_LARGE;
                return;
            }
            int catchNode = handlers.catches[handler];
            int start = code.rowCount * ROW_WIDTH;
            code.rows[start] = first;
            code.rows[start + 1] = behind;
            code.rows[start + 2] = handlers.targets[handler];
            code.rows[start + 3] = catchNode == NONE ? LEAST_INT : tree.part(catchNode, Tree.A);
            code.rows[start + 4] = catchNode == NONE ? GREATEST_INT : tree.part(catchNode, Tree.B);
            code.rowCount++;
        }
    }

    /** Runs what is laid down. */
    private static final class Machine {
        private static final int GOING = 0;
        private static final int WELL = 1;
        private static final int BADLY = 2;
        private static final int TOO_LONG = 3;

        private static final int ENDING = 0;
        private static final int BAD_CODE = 1;
        private static final int STEPS = 2;
        static final int PUT_OUT = 3;
        private static final int THROWN = 4;
        private static final int DEEPEST = 5;

        private static final int BY_ZERO = 1;
        private static final int INSTEAD_OF_ZERO = 2;
        private static final int TOO_MANY_FRAMES = 3;

        private final Code code;
        final int[] variables = new int[VARIABLES];
        final int[] outs = new int[MOST_OUT];
        final int[] report = new int[REPORT_WIDTH];
        boolean ran;
        /**
         * One pile serves all frames: a CALL is no part of an expression, so a frame that waits has
         * nothing on its own. No expression is deeper than there are nodes.
         */
        private final int[] pile = new int[MOST_NODES];
        private int height;
        /** The CALLs at which the frames below wait. */
        private final int[] calls = new int[MOST_FRAMES];
        /** TRYs lie in one another no deeper than there are nodes. */
        private final int[] places = new int[MOST_FRAMES * MOST_NODES];
        private int frames;
        private int at;

        Machine(Code code) {
            this.code = code;
        }

        int start(int entryPoint) {
            ran = true;
            Arrays.fill(variables, 0);
            Arrays.fill(report, 0);
            height = 0;
            frames = 1;
            at = entryPoint;
            report[DEEPEST] = 1;
            for (int i = 0; i < MOST_STEPS && report[ENDING] == GOING; i++) {
                report[STEPS]++;
                doStep();
            }
            if (report[ENDING] == GOING) {
                report[ENDING] = TOO_LONG;
            }
            return report[ENDING];
        }

        private void doStep() {
            int op = code.ops[at];
            int arg = code.args[at];
            switch (op) {
                case Op.JUMP:
                    at = arg;
                    break;
                case Op.ZERO:
                    at = pull() == 0 ? arg : at + 1;
                    break;
                case Op.RAISE:
                    int taken = pull();
                    raise(taken == 0 ? INSTEAD_OF_ZERO : taken);
                    break;
                case Op.CALL:
                    enter(arg);
                    break;
                case Op.RET:
                    goBack();
                    break;
                case Op.AGAIN:
                    raise(places[placeOf(arg)]);
                    break;
                default:
                    doStraight(op, arg);
            }
        }

        /** An instruction behind which it goes on with the next one, if it does not throw. */
        private void doStraight(int op, int arg) {
            switch (op) {
                case Op.PUSH:
                    push(arg);
                    break;
                case Op.LOAD:
                    push(variables[arg]);
                    break;
                case Op.STORE:
                    variables[arg] = pull();
                    break;
                case Op.PUT:
                    putOut(pull());
                    break;
                case Op.KEEP:
                    places[placeOf(arg)] = pull();
                    break;
                default:
                    int right = pull();
                    int left = pull();
                    if (op == Op.DIV && right == 0) {
                        raise(BY_ZERO);
                        return;
                    }
                    push(combine(op, left, right));
            }
            at++;
        }

        private static int combine(int op, int left, int right) {
            switch (op) {
                case Op.ADD:
                    return left + right;
                case Op.SUB:
                    return left - right;
                case Op.MUL:
                    return left * right;
                case Op.DIV:
                    return right == 0 ? 0 : left / right;
                case Op.LESS:
                    return left < right ? 1 : 0;
                default:
                    return left == right ? 1 : 0;
            }
        }

        private void enter(int function) {
            if (frames >= MOST_FRAMES) {
                raise(TOO_MANY_FRAMES);
                return;
            }
            calls[frames - 1] = at;
            frames++;
            report[DEEPEST] = Math.max(report[DEEPEST], frames);
            at = code.entries[function];
        }

        private void goBack() {
            frames--;
            if (frames == 0) {
                report[ENDING] = WELL;
            } else {
                at = calls[frames - 1] + 1;
            }
        }

        private void raise(int thrown) {
            report[THROWN]++;
            height = 0;
            for (; frames > 0; frames--) {
                int taker = code.rowFor(at, thrown);
                if (taker != NONE) {
                    push(thrown);
                    at = code.rows[taker * ROW_WIDTH + 2];
                    return;
                }
                if (frames > 1) {
                    at = calls[frames - 2];
                }
            }
            report[ENDING] = BADLY;
            report[BAD_CODE] = thrown;
        }

        private void putOut(int value) {
            if (report[PUT_OUT] < MOST_OUT) {
                outs[report[PUT_OUT]] = value;
                report[PUT_OUT]++;
            }
        }

        private int placeOf(int k) {
            return (frames - 1) * MOST_NODES + k;
        }

        private void push(int value) {
            if (height < MOST_NODES) {
                pile[height] = value;
                height++;
            }
        }

        private int pull() {
            if (height == 0) {
                return 0;
            }
            height--;
            return pile[height];
        }
    }
}
