/** What the tests share: names for tokens, short ways to tell runs of calls, and the count of wrong answers. */
class Check {
    static final int PARAGRAPH = 10;
    static final int BLANK = 256;
    static final int OPEN = 257;
    static final int CLOSE = 258;
    static final int HOLD = 260;
    static final int AFTER = 261;
    static final int NAMING = 262;
    static final int NAMED = 263;
    static final int DEFINE = 264;
    static final int DEFINE_EXPANDED = 265;
    static final int LONG = 266;
    static final int OUTER = 267;
    static final int GLOBAL = 268;
    static final int LATER = 269;

    private static int wrong = 0;
    private static int asked = 0;

    static int name(int n) {
        return 1000 + n;
    }

    static int par(int k) {
        return 310 + k;
    }

    static int par(int level, int k) {
        return 310 + 10 * level + k;
    }

    /** Tokens from numbers, characters, rows of numbers and texts, in which '{' is OPEN, '}' CLOSE, '_' BLANK. */
    static int[] tokens(Object... parts) {
        int[] row = new int[5000];
        int size = 0;
        for (Object part : parts) {
            if (part instanceof Integer number) {
                row[size++] = number;
            } else if (part instanceof int[] many) {
                for (int token : many) {
                    row[size++] = token;
                }
            } else {
                for (char sign : String.valueOf(part).toCharArray()) {
                    row[size++] = sign == '{' ? OPEN : sign == '}' ? CLOSE : sign == '_' ? BLANK : sign;
                }
            }
        }
        return java.util.Arrays.copyOf(row, size);
    }

    static int[] times(int count, Object... parts) {
        int[] once = tokens(parts);
        int[] row = new int[once.length * count];
        for (int i = 0; i < row.length; i++) {
            row[i] = once[i % once.length];
        }
        return row;
    }

    static Object[] rows(Object... rows) {
        return rows;
    }

    /** Defines a macro; the rows are what stands in the delimiter rows 0 and on, each a text or an int[]. */
    static int macro(MacroExpand x, int n, int arguments, int marks, Object[] rows, Object... text) {
        int number = x.define(n, arguments, marks);
        for (int k = 0; k < rows.length; k++) {
            for (int token : tokens(rows[k])) {
                x.delimiter(number, k, token);
            }
        }
        for (int token : tokens(text)) {
            x.body(number, token);
        }
        return number;
    }

    static void feed(MacroExpand x, Object... parts) {
        feed(x, tokens(parts));
    }

    static void feed(MacroExpand x, int[] row) {
        for (int token : row) {
            if (x.token(token) < 0) {
                same("feeding " + token, -1, 0);
            }
        }
    }

    static void same(String what, long got, long due) {
        asked++;
        if (got != due) {
            wrong++;
            System.out.println(what + " answered " + got + ", due is " + due);
        }
    }

    static void output(String what, MacroExpand x, Object... due) {
        int[] row = tokens(due);
        for (int i = 0; i < row.length; i++) {
            same(what + ": at(" + i + ")", x.at(i), row[i]);
        }
        same(what + ": behind the output", x.at(row.length), -1);
    }

    static void input(String what, MacroExpand x, Object... due) {
        int[] row = tokens(due);
        for (int i = 0; i < row.length; i++) {
            same(what + ": input(" + i + ")", x.input(i), row[i]);
        }
        same(what + ": behind the input", x.input(row.length), -1);
    }

    /** A whole expansion without fault. */
    static void whole(String what, MacroExpand x, Object... due) {
        same(what + ": expand(true)", x.expand(true), tokens(due).length);
        same(what + ": fault(0)", x.fault(0), 0);
        same(what + ": fault(1)", x.fault(1), 0);
        output(what, x, due);
        input(what, x);
    }

    /** An expansion of the first token alone, without fault. */
    static void once(String what, MacroExpand x, Object... due) {
        same(what + ": expand(false)", x.expand(false), tokens(due).length);
        same(what + ": fault(0)", x.fault(0), 0);
        input(what, x, due);
    }

    static void faulted(String what, MacroExpand x, boolean whole, int fault, int name, int steps) {
        same(what + ": expand(" + whole + ")", x.expand(whole), -fault);
        same(what + ": fault(0)", x.fault(0), fault);
        same(what + ": fault(1)", x.fault(1), name);
        same(what + ": fault(2)", x.fault(2), steps);
        input(what, x);
    }

    static void faulted(String what, MacroExpand x, int fault, int name, int steps) {
        faulted(what, x, true, fault, name, steps);
    }

    /** Tokens that are fed and then wholly expanded without fault; the tokens come as one row, made by tokens(). */
    static void gives(String what, MacroExpand x, int[] fed, Object... due) {
        feed(x, fed);
        whole(what, x, due);
    }

    /** Tokens that are fed and whose whole expansion ends in a fault. */
    static void faults(String what, MacroExpand x, int fault, int name, int steps, Object... fed) {
        feed(x, fed);
        faulted(what, x, fault, name, steps);
    }

    static MacroExpand fresh() {
        return new MacroExpand(20000);
    }

    static void finish() {
        System.out.println(wrong + " of " + asked + " answers are not as due");
        if (wrong != 0) {
            System.exit(1);
        }
    }
}
