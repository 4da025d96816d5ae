import java.util.ArrayDeque;
import java.util.ArrayList;
import java.util.Deque;
import java.util.List;

/** The document once more in the plainest Java, with lists, recursion and an exception for a fault; for ModelTest. */
final class Model {
    private static final int ROOM = 3000;

    private static final class Fault extends RuntimeException {
        private static final long serialVersionUID = 1L;
        final int number;

        Fault(int number) {
            super(null, null, false, false);
            this.number = number;
        }
    }

    private static final class Macro {
        int arguments;
        int marks;
        List<List<Integer>> rows = new ArrayList<>();
        List<Integer> text = new ArrayList<>();
    }

    /** A token of the input, and whether HOLD stood before it. */
    private static final class Item {
        final int token;
        boolean held;

        Item(int token) {
            this.token = token;
        }
    }

    private final long granted;
    private final List<Macro> macros = new ArrayList<>();
    private int[] numbers = new int[200];
    private final Deque<int[]> groups = new ArrayDeque<>();
    private Deque<Item> input = new ArrayDeque<>();
    private final List<Integer> output = new ArrayList<>();
    private final List<List<Integer>> made = new ArrayList<>();
    private final List<int[]> trace = new ArrayList<>();
    private final Deque<Integer> work = new ArrayDeque<>();
    private int marks;
    private Integer later;
    private int steps;
    private int fault;
    private int faultName;

    Model(long steps) {
        granted = steps < 1 ? 1 : steps > 20000 ? 20000 : steps;
        java.util.Arrays.fill(numbers, -1);
    }

    private static boolean isToken(int t) {
        return t >= 0 && t <= 269 && t != 259 || isParameter(t) || isName(t);
    }

    private static boolean isParameter(int t) {
        for (int level = 0; level <= 8; level++) {
            for (int k = 1; k <= 9; k++) {
                if (t == 310 + 10 * level + k) {
                    return true;
                }
            }
        }
        return false;
    }

    private static boolean isName(int t) {
        return t >= 1000 && t <= 1199;
    }

    int define(int name, int arguments, int marks) {
        if (name < 0 || name > 199 || arguments < 0 || arguments > 9 || marks < 0 || marks > 7) {
            return -2;
        }
        if (macros.size() == 100) {
            return -4;
        }
        Macro macro = new Macro();
        macro.arguments = arguments;
        for (int k = 0; k <= arguments; k++) {
            macro.rows.add(new ArrayList<>());
        }
        return enter(name, macro, marks);
    }

    private int enter(int name, Macro macro, int marks) {
        macro.marks = marks;
        macros.add(macro);
        int number = macros.size() - 1;
        numbers[name] = number;
        if ((marks & 4) != 0) {
            for (int[] before : groups) {
                before[name] = number;
            }
        }
        return number;
    }

    private boolean isMacro(int number) {
        return number >= 0 && number < macros.size();
    }

    int body(int macro, int token) {
        if (!isMacro(macro)) {
            return -1;
        }
        return isToken(token) ? oneMore(macros.get(macro).text, token) : -2;
    }

    int delimiter(int macro, int argument, int token) {
        if (!isMacro(macro)) {
            return -1;
        }
        List<List<Integer>> rows = macros.get(macro).rows;
        if (argument < 0 || argument >= rows.size() || !isToken(token) || token == 257 || token == 258
                || isParameter(token)) {
            return -2;
        }
        return oneMore(rows.get(argument), token);
    }

    private static int oneMore(List<Integer> row, int token) {
        if (row.size() == 200) {
            return -4;
        }
        row.add(token);
        return row.size();
    }

    int token(int t) {
        if (!isToken(t)) {
            return -2;
        }
        if (input.size() == ROOM) {
            return -4;
        }
        input.addLast(new Item(t));
        return input.size();
    }

    int expand(boolean whole) {
        trace.clear();
        work.clear();
        steps = 0;
        fault = 0;
        faultName = 0;
        marks = 0;
        later = null;
        for (Item item : input) {
            item.held = false;
        }
        try {
            if (whole) {
                expandAll();
            } else if (canExpand()) {
                expandOnce(0);
            }
        } catch (Fault found) {
            fault = found.number;
            faultName = work.isEmpty() ? 0 : work.getLast();
            input.clear();
            return -fault;
        }
        return whole ? output.size() : input.size();
    }

    private void check(boolean isFine, int number) {
        if (!isFine) {
            throw new Fault(number);
        }
    }

    private int take() {
        check(!input.isEmpty(), 1);
        return input.removeFirst().token;
    }

    private void putInFront(int token) {
        if (!input.isEmpty()) {
            input.getFirst().held = false;
        }
        input.addFirst(new Item(token));
    }

    private boolean hasMacro(int t) {
        return isName(t) && numbers[t - 1000] >= 0;
    }

    private boolean isOuter(int t) {
        return hasMacro(t) && (macros.get(numbers[t - 1000]).marks & 2) != 0;
    }

    private boolean canExpand() {
        if (input.isEmpty() || input.getFirst().held) {
            return false;
        }
        int t = input.getFirst().token;
        return t >= 260 && t <= 262 || hasMacro(t);
    }

    private void expandOnce(int within) {
        check(steps < granted, 5);
        steps++;
        int t = take();
        if (t == 260) {
            check(!input.isEmpty(), 1);
            input.getFirst().held = true;
        } else if (t == 261) {
            after(within);
        } else if (t == 262) {
            naming(within);
        } else {
            work.addLast(t);
            expandName(t, macros.get(numbers[t - 1000]));
            work.removeLast();
        }
    }

    private void after(int within) {
        check(input.size() >= 2, 1);
        check(within < 50, 8);
        int aside = take();
        if (canExpand()) {
            expandOnce(within + 1);
        }
        check(input.size() < ROOM, 8);
        putInFront(aside);
    }

    private void naming(int within) {
        check(within < 50, 8);
        List<Integer> signs = new ArrayList<>();
        while (true) {
            if (canExpand()) {
                expandOnce(within + 1);
                continue;
            }
            int t = take();
            if (t == 263) {
                break;
            }
            check(t <= 255 && signs.size() < 8, 4);
            signs.add(t);
        }
        check(!signs.isEmpty(), 4);
        if (!made.contains(signs)) {
            check(made.size() < 100, 8);
            made.add(signs);
        }
        putInFront(1100 + made.indexOf(signs));
    }

    private void expandName(int name, Macro macro) {
        for (int due : macro.rows.get(0)) {
            int t = take();
            check(!isOuter(t), 2);
            check(t == due, 3);
        }
        List<List<Integer>> arguments = new ArrayList<>();
        int taken = 0;
        for (int k = 1; k <= macro.arguments; k++) {
            List<Integer> row = macro.rows.get(k);
            arguments.add(row.isEmpty() ? nextArgument(macro) : argumentUpTo(row, macro));
            taken += arguments.get(k - 1).size();
        }
        List<Integer> coming = new ArrayList<>();
        for (int t : macro.text) {
            if (t > 310 && t < 320) {
                coming.addAll(t - 310 <= macro.arguments ? arguments.get(t - 311) : List.of());
            } else {
                coming.add(isParameter(t) ? t - 10 : t);
            }
        }
        check(input.size() + coming.size() <= ROOM, 8);
        for (int i = coming.size() - 1; i >= 0; i--) {
            putInFront(coming.get(i));
        }
        trace.add(new int[] {name, taken, coming.size()});
    }

    private int takeForArgument(Macro macro) {
        int t = take();
        check(!isOuter(t) && (t != 10 || (macro.marks & 1) != 0), 2);
        return t;
    }

    private List<Integer> nextArgument(Macro macro) {
        while (!input.isEmpty() && input.getFirst().token == 256) {
            take();
        }
        int first = takeForArgument(macro);
        check(first != 258, 7);
        if (first != 257) {
            return List.of(first);
        }
        List<Integer> argument = new ArrayList<>();
        for (int open = 1; true;) {
            int t = takeForArgument(macro);
            open += t == 257 ? 1 : t == 258 ? -1 : 0;
            if (open == 0) {
                return argument;
            }
            check(argument.size() < 400, 8);
            argument.add(t);
        }
    }

    private List<Integer> argumentUpTo(List<Integer> row, Macro macro) {
        List<Integer> argument = new ArrayList<>();
        int open = 0;
        int pairs = 0;
        while (open > 0 || !comes(row)) {
            int t = takeForArgument(macro);
            check(open > 0 || t != 258, 7);
            pairs += t == 257 && open == 0 ? 1 : 0;
            open += t == 257 ? 1 : t == 258 ? -1 : 0;
            check(argument.size() < 400, 8);
            argument.add(t);
        }
        for (int i = 0; i < row.size(); i++) {
            take();
        }
        boolean isOnePair = pairs == 1 && argument.get(0) == 257 && argument.get(argument.size() - 1) == 258;
        return isOnePair ? argument.subList(1, argument.size() - 1) : argument;
    }

    private boolean comes(List<Integer> row) {
        int i = 0;
        for (Item item : input) {
            if (i < row.size() && item.token != row.get(i)) {
                return false;
            }
            if (++i >= row.size()) {
                return true;
            }
        }
        return false;
    }

    private void expandAll() {
        output.clear();
        while (!input.isEmpty()) {
            if (canExpand()) {
                expandOnce(0);
                continue;
            }
            int t = take();
            if (t >= 266 && t <= 268) {
                marks |= 1 << t - 266;
            } else if (t == 264 || t == 265) {
                readDefinition(t == 265);
            } else {
                check(marks == 0, 6);
                if (t == 269) {
                    later = take();
                } else {
                    check(output.size() < ROOM, 8);
                    output.add(t);
                }
            }
        }
        check(marks == 0, 1);
    }

    private void readDefinition(boolean isExpanded) {
        int name = take();
        check(isName(name), 6);
        work.addLast(name);
        Macro macro = new Macro();
        macro.rows.add(new ArrayList<>());
        for (int t = take(); t != 257; t = take()) {
            check(t != 258, 6);
            if (isParameter(t)) {
                macro.arguments++;
                check(t == 310 + macro.arguments, 6);
                macro.rows.add(new ArrayList<>());
            } else {
                check(oneMore(macro.rows.get(macro.arguments), t) > 0, 8);
            }
        }
        readText(macro, isExpanded);
        check(macros.size() < 100, 8);
        enter(name - 1000, macro, marks);
        work.removeLast();
        marks = 0;
        if (later != null) {
            putInFront(later);
            later = null;
        }
    }

    private void readText(Macro macro, boolean isExpanded) {
        for (int open = 1; true;) {
            if (isExpanded && canExpand()) {
                expandOnce(0);
                continue;
            }
            int t = take();
            open += t == 257 ? 1 : t == 258 ? -1 : 0;
            if (open == 0) {
                return;
            }
            check(t <= 310 + macro.arguments || t > 319, 6);
            check(oneMore(macro.text, t) > 0, 8);
        }
    }

    /** The delimiter rows of a name's macro, so that a test can write calls that fit; none without a macro. */
    List<List<Integer>> rowsOf(int name) {
        return hasMacro(1000 + name) ? macros.get(numbers[name]).rows : List.of();
    }

    int at(int i) {
        return i >= 0 && i < output.size() ? output.get(i) : -1;
    }

    int fault(int what) {
        return what == 0 ? fault : what == 1 ? faultName : what == 2 ? steps : -2;
    }

    int group(boolean opens) {
        if (opens && groups.size() == 20) {
            return -4;
        }
        if (!opens && groups.isEmpty()) {
            return -3;
        }
        if (opens) {
            groups.addLast(numbers.clone());
        } else {
            numbers = groups.removeLast();
        }
        return groups.size();
    }

    int named(int i) {
        return i == -1 ? made.size() : i >= 0 && i < made.size() ? made.get(i).size() : -1;
    }

    int traced(int i, int what) {
        boolean isThere = i >= 0 && i < 100 && i < trace.size() && what >= 0 && what < 3;
        return isThere ? trace.get(i)[what] : -1;
    }

    int input(int i) {
        int k = 0;
        for (Item item : input) {
            if (k++ == i) {
                return item.token;
            }
        }
        return -1;
    }

    int macro(int name) {
        return name >= 0 && name < 200 ? numbers[name] : -1;
    }
}
