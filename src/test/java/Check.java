/** Counts the answers that are not as due; each test ends with end(). */
final class Check {
    private static int wrong = 0;
    private static int asked = 0;
    private static String sentence = "";

    private Check() {
    }

    /** The document's words that are tested from here on; they are told with each wrong answer. */
    static void sentence(String words) {
        sentence = "\"" + words + "\": ";
    }

    static void due(String what, long got, long want) {
        asked++;
        if (got != want) {
            wrong++;
            System.out.println(sentence + what + " answered " + got + ", due is " + want);
        }
    }

    static void due(String what, boolean got, boolean want) {
        due(what, got ? 1 : 0, want ? 1 : 0);
    }

    /** What instruction(i, what) answers, as text, or the name of what it throws. */
    static String instruction(UnwindMill x, int i, int what) {
        try {
            return "" + x.instruction(i, what);
        } catch (RuntimeException e) {
            return e.getClass().getSimpleName();
        }
    }

    static String row(UnwindMill x, int i, int what) {
        try {
            return "" + x.row(i, what);
        } catch (RuntimeException e) {
            return e.getClass().getSimpleName();
        }
    }

    static void same(String what, String got, String want) {
        asked++;
        if (!got.equals(want)) {
            wrong++;
            System.out.println(sentence + what + " answered\n  " + got + "\ndue is\n  " + want);
        }
    }

    /** All instructions in one line, as names. */
    static String code(UnwindMill x) {
        String[] names = {"PUSH", "LOAD", "ADD", "SUB", "MUL", "DIV", "LESS", "EQUAL", "STORE", "PUT", "ZERO", "JUMP",
            "RAISE", "CALL", "RET", "KEEP", "AGAIN"};
        boolean[] plain = {false, false, true, true, true, true, true, true, false, true, false, false,
            true, false, true, false, false};
        StringBuilder all = new StringBuilder();
        for (int i = 0; i < x.laid(0); i++) {
            int op = x.instruction(i, 0);
            all.append(i == 0 ? "" : "; ").append(names[op]);
            if (!plain[op]) {
                all.append(' ').append(x.instruction(i, 1));
            } else if (x.instruction(i, 1) != 0) {
                all.append(" has ").append(x.instruction(i, 1));
            }
        }
        return all.toString();
    }

    /** All rows of the table in one line; all ints are written *. */
    static String table(UnwindMill x) {
        StringBuilder all = new StringBuilder();
        for (int i = 0; i < x.laid(1); i++) {
            boolean any = x.row(i, 3) == Integer.MIN_VALUE && x.row(i, 4) == Integer.MAX_VALUE;
            all.append(i == 0 ? "" : "; ").append(x.row(i, 0)).append("..").append(x.row(i, 1)).append(" to ")
                .append(x.row(i, 2)).append(" of ").append(any ? "*" : x.row(i, 3) + "-" + x.row(i, 4));
        }
        return all.toString();
    }

    /** Of the latest run: how it was over, code, steps, ints put out, throws, frames; then the ints. */
    static String report(UnwindMill x) {
        StringBuilder all = new StringBuilder();
        for (int what = 0; what < 6; what++) {
            all.append(what == 0 ? "" : " ").append(x.latest(what));
        }
        all.append(" |");
        for (int i = 0; i < x.latest(3); i++) {
            all.append(' ').append(x.out(i));
        }
        return all.toString();
    }

    /** All that can be asked of an object, in one text: two that are the same are in the same state but for nodes and bodies. */
    static String all(UnwindMill x) {
        StringBuilder all = new StringBuilder("laid");
        for (int what = 0; what < 4; what++) {
            all.append(' ').append(x.laid(what));
        }
        all.append("\n  ").append(code(x)).append("\n  ").append(table(x)).append("\n  entries");
        for (int f = 0; f < 6; f++) {
            all.append(' ').append(x.entry(f));
        }
        all.append("\n  ").append(report(x)).append(" | ");
        for (int i = 0; i < 65; i++) {
            all.append(x.out(i)).append(' ');
        }
        for (int v = 0; v < 8; v++) {
            all.append("| ").append(x.variable(v));
        }
        return all.toString();
    }

    static void end() {
        System.out.println(wrong == 0 ? asked + " answers are as due" : wrong + " of " + asked + " are not as due");
        if (wrong != 0) {
            System.exit(1);
        }
    }
}
