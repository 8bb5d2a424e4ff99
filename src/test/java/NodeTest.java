/** Promises 2 to 4: node, catchBehind, body. */
public final class NodeTest {
    private static final int MIN = Integer.MIN_VALUE;
    private static final int MAX = Integer.MAX_VALUE;

    public static void main(String[] args) {
        kinds();
        sorts();
        catches();
        full();
        bodies();
        Check.end();
    }

    /** An expression 0, a statement 1, a catch 2, a catch behind 3. */
    private static UnwindMill withSorts() {
        UnwindMill x = new UnwindMill();
        x.node(0, 7, 0, 0, 0);
        x.node(8, 0, 0, 0, 0);
        x.node(19, 1, 5, 0, 1);
        x.catchBehind(6, 9, 0, 1, 2);
        return x;
    }

    private static void kinds() {
        UnwindMill x = withSorts();
        int next = 4;
        int[] wrongKinds = {-1, 20, 21, 22, 100, MIN, MAX};
        for (int kind : wrongKinds) {
            Check.due("kind " + kind, x.node(kind, 0, 0, 0, 1), -1);
        }
        Check.due("kind 20 with right parts", x.node(20, 1, 5, 0, 1), -1);
        Check.due("NUMBER", x.node(0, MIN, MAX, MAX, MAX), next++);
        Check.due("VARIABLE 0", x.node(1, 0, -9, -9, -9), next++);
        Check.due("VARIABLE 7", x.node(1, 7, -9, -9, -9), next++);
        for (int kind = 2; kind <= 7; kind++) {
            Check.due("kind " + kind, x.node(kind, 0, 0, -9, -9), next++);
        }
        Check.due("SKIP", x.node(8, -9, -9, -9, -9), next++);
        Check.due("SET", x.node(9, 7, 0, -9, -9), next++);
        Check.due("OUT", x.node(10, 0, -9, -9, -9), next++);
        Check.due("SEQUENCE", x.node(11, 1, 1, -9, -9), next++);
        Check.due("IF", x.node(12, 0, 1, 1, -9), next++);
        Check.due("WHILE", x.node(13, 0, 1, -9, -9), next++);
        Check.due("THROW", x.node(14, 0, -9, -9, -9), next++);
        Check.due("CALL", x.node(15, 5, -9, -9, -9), next++);
        Check.due("RETURN", x.node(16, -9, -9, -9, -9), next++);
        Check.due("BREAK", x.node(17, -9, -9, -9, -9), next++);
        Check.due("TRY", x.node(18, 1, 3, 1, -9), next++);
        Check.due("TRY of nothing", x.node(18, 1, -1, -1, -9), next++);
        Check.due("CATCH", x.node(19, MIN, MAX, 7, 1), next++);
        Check.due("CATCH of no codes", x.node(19, MAX, MIN, 0, 1), next++);
    }

    /** Each part that must be of a sort is tried with all that it may not be. */
    private static void sorts() {
        UnwindMill x = withSorts();
        int[] notVariables = {-1, 8, 100, MIN, MAX};
        int[] notFunctions = {-1, 6, 100, MIN, MAX};
        int[] notExpressions = {-1, 1, 2, 3, 4, 5, 149, 150, MIN, MAX};
        int[] notStatements = {-1, 0, 2, 3, 4, 5, 149, 150, MIN, MAX};
        for (int v : notVariables) {
            Check.due("VARIABLE " + v, x.node(1, v, 0, 0, 0), -1);
            Check.due("SET " + v, x.node(9, v, 0, 0, 0), -1);
            Check.due("CATCH c " + v, x.node(19, 0, 0, v, 1), -1);
            Check.due("catchBehind c " + v, x.catchBehind(0, 0, v, 1, 2), -1);
        }
        for (int f : notFunctions) {
            Check.due("CALL " + f, x.node(15, f, 0, 0, 0), -1);
        }
        for (int e : notExpressions) {
            for (int kind = 2; kind <= 7; kind++) {
                Check.due("kind " + kind + " a " + e, x.node(kind, e, 0, 0, 0), -1);
                Check.due("kind " + kind + " b " + e, x.node(kind, 0, e, 0, 0), -1);
            }
            Check.due("SET b " + e, x.node(9, 0, e, 0, 0), -1);
            Check.due("OUT " + e, x.node(10, e, 0, 0, 0), -1);
            Check.due("IF a " + e, x.node(12, e, 1, 1, 0), -1);
            Check.due("WHILE a " + e, x.node(13, e, 1, 0, 0), -1);
            Check.due("THROW " + e, x.node(14, e, 0, 0, 0), -1);
        }
        for (int s : notStatements) {
            Check.due("SEQUENCE a " + s, x.node(11, s, 1, 0, 0), -1);
            Check.due("SEQUENCE b " + s, x.node(11, 1, s, 0, 0), -1);
            Check.due("IF b " + s, x.node(12, 0, s, 1, 0), -1);
            Check.due("IF c " + s, x.node(12, 0, 1, s, 0), -1);
            Check.due("WHILE b " + s, x.node(13, 0, s, 0, 0), -1);
            Check.due("TRY a " + s, x.node(18, s, -1, -1, 0), -1);
            Check.due("CATCH d " + s, x.node(19, 0, 0, 0, s), -1);
            Check.due("catchBehind d " + s, x.catchBehind(0, 0, 0, s, 2), -1);
            if (s != -1) {
                Check.due("TRY c " + s, x.node(18, 1, -1, s, 0), -1);
            }
        }
        int[] notCatches = {-2, 0, 1, 4, 149, 150, MIN, MAX};
        for (int c : notCatches) {
            Check.due("TRY b " + c, x.node(18, 1, c, -1, 0), -1);
            Check.due("catchBehind e " + c, x.catchBehind(0, 0, 0, 1, c), -1);
        }
        Check.due("nothing happened", x.node(8, 0, 0, 0, 0), 4);
    }

    private static void catches() {
        UnwindMill x = withSorts();
        Check.due("behind a 19", x.catchBehind(1, 2, 7, 1, 2), 4);
        Check.due("behind a 20", x.catchBehind(MAX, MIN, 0, 1, 3), 5);
        Check.due("behind none", x.catchBehind(1, 2, 0, 1, -1), -1);
        Check.due("behind itself", x.catchBehind(1, 2, 0, 1, 6), -1);
        Check.due("a TRY of them", x.node(18, 1, 5, -1, 0), 6);
    }

    private static void full() {
        UnwindMill x = withSorts();
        for (int i = 4; i < 150; i++) {
            Check.due("node " + i, x.node(8, 0, 0, 0, 0), i);
        }
        Check.due("the 151st", x.node(8, 0, 0, 0, 0), -1);
        Check.due("the 151st, a catch", x.catchBehind(0, 0, 0, 1, 2), -1);
        Check.due("the last one is there", x.body(0, 149), true);
        Check.due("150 is not", x.body(0, 150), false);
    }

    private static void bodies() {
        UnwindMill x = withSorts();
        x.node(15, 3, 0, 0, 0);
        for (int f = 0; f < 6; f++) {
            Check.due("body of " + f, x.body(f, 4), true);
        }
        int[] notFunctions = {-1, 6, MIN, MAX};
        for (int f : notFunctions) {
            Check.due("body of " + f, x.body(f, 4), false);
            Check.due("no body of " + f, x.body(f, -1), false);
        }
        int[] notStatements = {-2, 0, 2, 3, 5, 150, MIN, MAX};
        for (int s : notStatements) {
            Check.due("body is " + s, x.body(0, s), false);
        }
        Check.due("all have bodies", x.lay(false), 12);
        Check.due("none for 2", x.body(2, -1), true);
        Check.due("what is laid down stays", x.laid(0), 12);
        Check.due("entry stays", x.entry(3), 6);
        Check.due("laid down anew", x.lay(false), 11);
        Check.due("entry of 3", x.entry(3), 5);
    }
}
