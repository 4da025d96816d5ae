import java.util.ArrayList;
import java.util.List;

/** All promises: runs of calls by chance, up to the 512 that an object is used for, answered as by the Model. */
public final class ModelTest extends Check {
    private static final int[] SIGNS = {'a', 'b', 'c', ',', ';', PARAGRAPH, 0, 255};
    private static final int[] NAMES = {0, 1, 2, 3, 4, 5, 100, 101, 102, 199};
    private static final int[] OTHERS = {BLANK, OPEN, CLOSE, HOLD, AFTER, NAMING, NAMED, DEFINE, DEFINE_EXPANDED, LONG,
        OUTER, GLOBAL, LATER, 311, 312, 319, 321, 339, 391, 399};
    private static long seed;

    private final MacroExpand x;
    private final Model model;
    private final int run;
    private int left = 512;

    private ModelTest(int run) {
        this.run = run;
        long[] steps = {1, 3, 20, 300, 20000, 20000, 20000, 20000, Long.MAX_VALUE, Long.MIN_VALUE};
        long granted = steps[below(steps.length)];
        x = new MacroExpand(granted);
        model = new Model(granted);
    }

    public static void main(String[] args) {
        int runs = args.length > 0 ? Integer.parseInt(args[0]) : 4000;
        for (int run = 0; run < runs; run++) {
            seed = run + (args.length > 1 ? Long.parseLong(args[1]) : 0);
            below(2);
            new ModelTest(run).anyRun();
        }
        finish();
    }

    private static int below(int bound) {
        seed = seed * 6364136223846793005L + 1442695040888963407L;
        return (int) ((seed >>> 33) % bound);
    }

    private static boolean chance(int percent) {
        return below(100) < percent;
    }

    private static int one(int[] row) {
        return row[below(row.length)];
    }

    /** Whether one more call may be made; the runs end by it. */
    private boolean may() {
        left--;
        return left >= 0;
    }

    private void agree(String call, int got, int due) {
        same("run " + run + ", " + (512 - left) + ": " + call, got, due);
    }

    private void anyRun() {
        int theme = below(8);
        if (theme == 0) {
            manyMacros();
        } else if (theme == 1) {
            manyNames();
        } else if (theme == 2) {
            growth();
        }
        someMacros();
        while (left > 0) {
            someGroup();
            if (chance(15)) {
                someMacros();
            }
            feedTokens(theme == 3 ? nested() : text(2 + below(12), 3));
            expandAndLook();
        }
    }

    private void manyMacros() {
        int count = 96 + below(6);
        for (int i = 0; i < count; i++) {
            define(one(NAMES), below(3), below(8));
        }
    }

    /** Names by the hundred: a macro makes eleven names from the sign it is given. */
    private void manyNames() {
        int number = define(5, 1, 0);
        for (int i = 0; i < 11; i++) {
            for (int token : new int[] {NAMING, par(1), 'a' + i, NAMED}) {
                body(number, token);
            }
        }
        int count = 8 + below(3);
        for (int i = 0; i < count; i++) {
            feedTokens(List.of(name(5), (int) 'A' + i));
        }
        expandAndLook();
    }

    /** Macros by which a short argument gets as long as arguments, bodies and the input may be. */
    private void growth() {
        int first = define(1, 1, 1);
        bodyTokens(first, name(2), times(chance(50) ? 0 : 1, AFTER, "t"), OPEN, times(19 + below(3), par(1)), CLOSE,
                times(below(3), ","));
        int second = define(2, 1, 1);
        if (chance(40)) {
            delimiter(second, 1, ',');
        }
        bodyTokens(second, times(5 + below(4), par(1)), times(below(3) * 90, "y"));
        int size = 8 + below(14);
        List<Integer> row = new ArrayList<>();
        if (chance(30)) {
            row.addAll(List.of(DEFINE_EXPANDED, name(3), OPEN));
        }
        row.addAll(List.of(name(1), OPEN));
        for (int i = 0; i < size; i++) {
            row.add(one(SIGNS));
        }
        row.add(CLOSE);
        row.addAll(text(below(6), 1));
        feedTokens(row);
        for (int i = below(3); i > 0; i--) {
            expandAndLook(false);
        }
        expandAndLook();
    }

    private void bodyTokens(int number, Object... parts) {
        for (int token : tokens(parts)) {
            body(number, token);
        }
    }

    /** AFTER and NAMING within each other, near to the fifty that may be. */
    private List<Integer> nested() {
        List<Integer> row = new ArrayList<>();
        int count = 47 + below(6);
        int open = 0;
        for (int i = 0; i < count; i++) {
            if (chance(70)) {
                row.addAll(List.of(AFTER, (int) 'x'));
            } else {
                row.add(NAMING);
                open++;
            }
        }
        row.addAll(text(below(3), 2));
        for (int i = 0; i < open; i++) {
            row.add(NAMED);
        }
        return row;
    }

    private void someMacros() {
        for (int i = 1 + below(4); i > 0; i--) {
            int arguments = chance(5) ? below(10) : below(3);
            int number = define(one(NAMES), arguments, chance(60) ? 0 : below(8));
            for (int k = 0; k <= arguments; k++) {
                for (int j = chance(40) ? 1 + below(3) : 0; j > 0; j--) {
                    delimiter(number, chance(95) ? k : k + 1, chance(80) ? one(SIGNS) : anyToken());
                }
            }
            for (int token : text(below(6), 2)) {
                body(number, chance(25) ? par(1 + below(arguments + 1)) : token);
            }
        }
    }

    private void someGroup() {
        for (int i = chance(1) ? 22 : chance(25) ? 1 : 0; i > 0; i--) {
            group(chance(60));
        }
    }

    private int anyToken() {
        if (chance(2)) {
            return below(1400) - 100;
        }
        return chance(40) ? one(SIGNS) : chance(50) ? name(one(NAMES)) : one(OTHERS);
    }

    /** Tokens that mostly make sense, with some that do not. */
    private List<Integer> text(int parts, int depth) {
        List<Integer> row = new ArrayList<>();
        for (int i = 0; i < parts; i++) {
            addPart(row, depth);
        }
        if (chance(15) && !row.isEmpty()) {
            row.remove(below(row.size()));
        }
        if (chance(15)) {
            row.add(below(row.size() + 1), anyToken());
        }
        return row;
    }

    private void addPart(List<Integer> row, int depth) {
        int kind = depth == 0 ? below(3) : below(20);
        if (kind < 3) {
            row.add(kind == 0 ? BLANK : one(SIGNS));
        } else if (kind < 5) {
            addPair(row, depth);
        } else if (kind < 12) {
            addCall(row, one(NAMES), depth);
        } else if (kind == 12) {
            row.add(HOLD);
            addPart(row, depth - 1);
        } else if (kind < 15) {
            row.add(AFTER);
            row.add(anyToken());
            addPart(row, depth - 1);
        } else if (kind < 17) {
            addNaming(row, depth);
        } else if (kind < 19) {
            addDefinition(row, depth);
        } else {
            row.add(LATER);
            row.add(anyToken());
        }
    }

    private void addPair(List<Integer> row, int depth) {
        row.add(OPEN);
        row.addAll(text(below(4), depth - 1));
        row.add(CLOSE);
    }

    private void addCall(List<Integer> row, int name, int depth) {
        row.add(name(name));
        List<List<Integer>> rows = model.rowsOf(name);
        for (int k = 0; k < rows.size(); k++) {
            if (k > 0 && rows.get(k).isEmpty() && chance(40)) {
                addPair(row, depth);
            } else if (k > 0) {
                row.addAll(text(rows.get(k).isEmpty() ? 1 : below(4), depth - 1));
            }
            row.addAll(rows.get(k));
        }
    }

    private void addNaming(List<Integer> row, int depth) {
        row.add(NAMING);
        int count = chance(85) ? 1 + below(2) : below(11);
        for (int i = 0; i < count; i++) {
            if (chance(85)) {
                row.add('a' + below(2));
            } else {
                addPart(row, depth - 1);
            }
        }
        row.add(NAMED);
    }

    private void addDefinition(List<Integer> row, int depth) {
        for (int i = chance(40) ? 1 + below(3) : 0; i > 0; i--) {
            row.add(LONG + below(3));
        }
        row.add(DEFINE + below(2));
        row.add(name(one(NAMES)));
        int arguments = below(3);
        for (int k = 0; k <= arguments; k++) {
            if (k > 0) {
                row.add(par(k));
            }
            for (int j = chance(40) ? 1 + below(2) : 0; j > 0; j--) {
                row.add(chance(90) ? one(SIGNS) : anyToken());
            }
        }
        row.add(OPEN);
        for (int token : text(below(5), depth - 1)) {
            row.add(token);
            if (chance(30)) {
                row.add(chance(90) && arguments > 0 ? par(1 + below(arguments)) : one(OTHERS));
            }
        }
        row.add(CLOSE);
    }

    private void feedTokens(List<Integer> row) {
        for (int t : row) {
            if (may()) {
                agree("token(" + t + ")", x.token(t), model.token(t));
            }
        }
    }

    private int define(int name, int arguments, int marks) {
        if (!may()) {
            return -1;
        }
        int due = model.define(name, arguments, marks);
        agree("define(" + name + ", " + arguments + ", " + marks + ")", x.define(name, arguments, marks), due);
        return due;
    }

    private void body(int macro, int token) {
        if (may()) {
            agree("body(" + macro + ", " + token + ")", x.body(macro, token), model.body(macro, token));
        }
    }

    private void delimiter(int macro, int argument, int token) {
        if (may()) {
            agree("delimiter(" + macro + ", " + argument + ", " + token + ")", x.delimiter(macro, argument, token),
                    model.delimiter(macro, argument, token));
        }
    }

    private void group(boolean opens) {
        if (may()) {
            agree("group(" + opens + ")", x.group(opens), model.group(opens));
        }
    }

    private void expandAndLook() {
        expandAndLook(chance(75));
    }

    private void expandAndLook(boolean whole) {
        if (!may()) {
            return;
        }
        int due = model.expand(whole);
        agree("expand(" + whole + ")", x.expand(whole), due);
        for (int what = 0; what < 3 && may(); what++) {
            agree("fault(" + what + ")", x.fault(what), model.fault(what));
        }
        int size = Math.abs(due) + 2;
        for (int looks = 2 + below(12); looks > 0 && may(); looks--) {
            look(below(9), below(chance(50) ? size : 120) - 1);
        }
    }

    private void look(int kind, int i) {
        if (kind < 3) {
            agree("at(" + i + ")", x.at(i), model.at(i));
        } else if (kind < 5) {
            agree("input(" + i + ")", x.input(i), model.input(i));
        } else if (kind == 5) {
            agree("named(" + i + ")", x.named(i), model.named(i));
        } else if (kind == 6) {
            int name = one(NAMES);
            agree("macro(" + name + ")", x.macro(name), model.macro(name));
        } else {
            int what = below(3);
            agree("traced(" + i + ", " + what + ")", x.traced(i, what), model.traced(i, what));
        }
    }
}
