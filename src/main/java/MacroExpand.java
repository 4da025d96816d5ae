import java.util.Arrays;

/**
 * Macros that take arguments between delimiters, expanded until nothing is left to expand.
 * What each call promises stands in the document (promises 1 to 13).
 */
public final class MacroExpand {
    private static final int NONE = -1;

    private static final int PARAGRAPH = 10;
    private static final int LAST_SIGN = 255;
    private static final int BLANK = 256;
    private static final int OPEN = 257;
    private static final int CLOSE = 258;
    private static final int HOLD = 260;
    private static final int AFTER = 261;
    private static final int NAMING = 262;
    private static final int NAMED = 263;
    private static final int DEFINE = 264;
    private static final int DEFINE_EXPANDED = 265;
    private static final int LONG = 266;
    private static final int OUTER = 267;
    private static final int GLOBAL = 268;
    private static final int LATER = 269;
    private static final int PARAMETERS = 310;
    private static final int LAST_PARAMETER = 399;
    private static final int LEVEL = 10;
    private static final int NAMES = 1000;
    private static final int MADE_NAMES = 1100;

    private static final int LONG_MARK = 1;
    private static final int OUTER_MARK = 2;
    private static final int GLOBAL_MARK = 4;
    private static final int ALL_MARKS = 7;

    private static final int MOST_STEPS = 20000;
    private static final int MOST_TOKENS = 3000;
    private static final int MOST_IN_ARGUMENT = 400;
    private static final int MOST_IN_ROW = 200;
    private static final int MOST_MACROS = 100;
    private static final int MOST_NAMES = 200;
    private static final int MOST_MADE_NAMES = 100;
    private static final int MOST_SIGNS = 8;
    private static final int MOST_ARGUMENTS = 9;
    private static final int MOST_GROUPS = 20;
    private static final int MOST_FRAMES = 50;
    private static final int MOST_TRACED = 100;

    // No run comes near these: 20000 steps bring at most 3000 tokens each to a whole expansion,
    // and at most ten turns each to what NAMING and AFTER expand.
    private static final int MOST_TURNS = 100000000;
    private static final int MOST_FRAME_TURNS = 1000000;

    private static final int FAULT_ENDED = 1;
    private static final int FAULT_FORBIDDEN = 2;
    private static final int FAULT_NOT_ROW = 3;
    private static final int FAULT_NAMING = 4;
    private static final int FAULT_STEPS = 5;
    private static final int FAULT_DEFINITION = 6;
    private static final int FAULT_CLOSE = 7;
    private static final int FAULT_ROOM = 8;

    private static final int UNKNOWN = -1;
    private static final int OUT_OF_RANGE = -2;
    private static final int WRONG_STATE = -3;
    private static final int NO_ROOM = -4;

    private final Book book;
    private final Spelling spelling;
    private final Input waiting;
    private final Expander expander;
    private final Whole wholeExpansion;
    private int latestFault;
    private int latestName;

    public MacroExpand(long steps) {
        int granted = (int) Math.max(1L, Math.min((long) MOST_STEPS, steps));
        book = new Book();
        spelling = new Spelling();
        waiting = new Input();
        expander = new Expander(granted, waiting, book, spelling);
        wholeExpansion = new Whole(waiting, book, expander);
        latestFault = 0;
        latestName = 0;
    }

    public int define(int name, int arguments, int marks) {
        if (name < 0 || name >= MOST_NAMES || arguments < 0 || arguments > MOST_ARGUMENTS
                || marks < 0 || marks > ALL_MARKS) {
            return OUT_OF_RANGE;
        }
        if (book.isFull()) {
            return NO_ROOM;
        }
        return book.enter(NAMES + name, new Macro(arguments, marks), marks);
    }

    public int body(int macro, int token) {
        Macro known = book.numbered(macro);
        if (known == null) {
            return UNKNOWN;
        }
        if (!Kind.isToken(token)) {
            return OUT_OF_RANGE;
        }
        return oneMore(known.text, token);
    }

    public int delimiter(int macro, int argument, int token) {
        Macro known = book.numbered(macro);
        if (known == null) {
            return UNKNOWN;
        }
        if (argument < 0 || argument > known.arguments || !Kind.canDelimit(token)) {
            return OUT_OF_RANGE;
        }
        return oneMore(known.row(argument), token);
    }

    public int token(int t) {
        if (!Kind.isToken(t)) {
            return OUT_OF_RANGE;
        }
        if (waiting.isFull()) {
            return NO_ROOM;
        }
        waiting.addLast(t);
        return waiting.size;
    }

    public int expand(boolean whole) {
        expander.begin();
        int found = 0;
        if (whole) {
            found = wholeExpansion.run();
        } else if (expander.canExpand()) {
            found = expander.expandOnce();
        }
        latestFault = found;
        latestName = found == 0 ? 0 : expander.nameAtWork;
        if (found != 0) {
            waiting.clear();
            return -found;
        }
        return whole ? wholeExpansion.output.size : waiting.size;
    }

    public int at(int i) {
        return wholeExpansion.output.get(i);
    }

    public int fault(int what) {
        if (what == 0) {
            return latestFault;
        }
        if (what == 1) {
            return latestName;
        }
        return what == 2 ? expander.steps : OUT_OF_RANGE;
    }

    public int group(boolean opens) {
        if (opens) {
            return book.openGroup() ? book.groups : NO_ROOM;
        }
        return book.closeGroup() ? book.groups : WRONG_STATE;
    }

    public int named(int i) {
        return i == -1 ? spelling.count : spelling.lengthOf(i);
    }

    public int traced(int i, int what) {
        return expander.trace.get(i, what);
    }

    public int input(int i) {
        return waiting.get(i);
    }

    public int macro(int name) {
        return book.numberOf(name);
    }

    private static int oneMore(Row row, int token) {
        if (row.isFull()) {
            return NO_ROOM;
        }
        row.add(token);
        return row.size;
    }

    /** What a token's number says of it. */
    private static final class Kind {
        private Kind() {
        }

        static boolean isToken(int token) {
            return token >= 0 && token <= CLOSE || token >= HOLD && token <= LATER
                    || isParameter(token) || isName(token);
        }

        static boolean isSign(int token) {
            return token >= 0 && token <= LAST_SIGN;
        }

        static boolean isName(int token) {
            return token >= NAMES && token < NAMES + MOST_NAMES;
        }

        static boolean isParameter(int token) {
            return token > PARAMETERS && token <= LAST_PARAMETER && (token - PARAMETERS) % LEVEL != 0;
        }

        /** Which argument a parameter of level 0 stands for; 0 for every other token. */
        static int argumentOf(int token) {
            return token > PARAMETERS && token < PARAMETERS + LEVEL ? token - PARAMETERS : 0;
        }

        static boolean canDelimit(int token) {
            return isToken(token) && token != OPEN && token != CLOSE && !isParameter(token);
        }

        static int markOf(int token) {
            if (token == LONG) {
                return LONG_MARK;
            }
            if (token == OUTER) {
                return OUTER_MARK;
            }
            return token == GLOBAL ? GLOBAL_MARK : 0;
        }

        /** How a token changes the number of OPENs that are without their CLOSE. */
        static int nesting(int token) {
            if (token == OPEN) {
                return 1;
            }
            return token == CLOSE ? -1 : 0;
        }
    }

    /** A row of tokens with a limit; it takes room only as it grows, since most rows stay short. */
    private static final class Row {
        private final int limit;
        private int[] items;
        private int size;

        Row(int limit) {
            this.limit = limit;
            items = new int[0];
            size = 0;
        }

        boolean isFull() {
            return size >= limit;
        }

        int get(int i) {
            return i >= 0 && i < size && i < items.length ? items[i] : NONE;
        }

        void add(int token) {
            if (size >= limit) {
                return;
            }
            if (size >= items.length) {
                items = Arrays.copyOf(items, Math.min(limit, 2 * items.length + 8));
            }
            if (size < items.length) {
                items[size] = token;
                size++;
            }
        }

        void clear() {
            size = 0;
        }

        void copyFrom(Row other) {
            items = Arrays.copyOf(other.items, Math.min(other.size, limit));
            size = items.length;
        }

        /** Leaves out an OPEN at the beginning whose CLOSE is the last token. */
        void leaveOutOuterPair() {
            if (size < 2 || get(0) != OPEN || get(size - 1) != CLOSE) {
                return;
            }
            int depth = 0;
            for (int i = 0; i < size - 1; i++) {
                depth += Kind.nesting(get(i));
                if (depth == 0) {
                    return;
                }
            }
            System.arraycopy(items, 1, items, 0, size - 2);
            size -= 2;
        }
    }

    /** What a name may stand for. */
    private static final class Macro {
        private final int arguments;
        private final boolean isLong;
        private final boolean isOuter;
        private final Row[] rows;
        private final Row text;

        Macro(int arguments, int marks) {
            this.arguments = Math.max(0, Math.min(MOST_ARGUMENTS, arguments));
            isLong = (marks & LONG_MARK) != 0;
            isOuter = (marks & OUTER_MARK) != 0;
            rows = new Row[this.arguments + 1];
            for (int k = 0; k < rows.length; k++) {
                rows[k] = new Row(MOST_IN_ROW);
            }
            text = new Row(MOST_IN_ROW);
        }

        Row row(int k) {
            return rows[Math.max(0, Math.min(k, rows.length - 1))];
        }
    }

    /** All macros, which one each name has, and what the names had when the open groups began. */
    private static final class Book {
        private final Macro[] macros;
        private final int[] numbers;
        private final int[][] before;
        private int count;
        private int groups;

        Book() {
            macros = new Macro[MOST_MACROS];
            numbers = new int[MOST_NAMES];
            Arrays.fill(numbers, NONE);
            before = new int[MOST_GROUPS][MOST_NAMES];
            count = 0;
            groups = 0;
        }

        boolean isFull() {
            return count >= MOST_MACROS;
        }

        Macro numbered(int number) {
            return number >= 0 && number < count && number < macros.length ? macros[number] : null;
        }

        int numberOf(int name) {
            return name >= 0 && name < numbers.length ? numbers[name] : NONE;
        }

        /** The macro that a token has, null where it is no name or has none. */
        Macro macroOf(int token) {
            return numbered(numberOf(token - NAMES));
        }

        boolean isOuter(int token) {
            int name = token - NAMES;
            if (name < 0 || name >= MOST_NAMES) {
                return false;
            }
            int number = numbers[name];
            Macro known = number >= 0 && number < count ? macros[number] : null;
            return known != null && known.isOuter;
        }

        /** The number that the macro gets; NONE without room for it. */
        int enter(int nameToken, Macro macro, int marks) {
            int name = nameToken - NAMES;
            if (isFull() || name < 0 || name >= MOST_NAMES) {
                return NONE;
            }
            macros[count] = macro;
            numbers[name] = count;
            if ((marks & GLOBAL_MARK) != 0) {
                for (int g = 0; g < groups; g++) {
                    before[g][name] = count;
                }
            }
            count++;
            return count - 1;
        }

        boolean openGroup() {
            if (groups >= MOST_GROUPS) {
                return false;
            }
            System.arraycopy(numbers, 0, before[groups], 0, MOST_NAMES);
            groups++;
            return true;
        }

        boolean closeGroup() {
            if (groups <= 0) {
                return false;
            }
            groups--;
            System.arraycopy(before[groups], 0, numbers, 0, MOST_NAMES);
            return true;
        }
    }

    /** The names that NAMING made, by their signs. */
    private static final class Spelling {
        private final int[] signs;
        private final int[] lengths;
        private int count;

        Spelling() {
            signs = new int[MOST_MADE_NAMES * MOST_SIGNS];
            lengths = new int[MOST_MADE_NAMES];
            count = 0;
        }

        int lengthOf(int i) {
            return i >= 0 && i < count && i < lengths.length ? lengths[i] : NONE;
        }

        /** Which name these signs make, a new one if they made none before; NONE without room for it. */
        int numberOf(int[] row, int from, int length) {
            if (from < 0 || length < 0 || length > MOST_SIGNS || from > row.length - length) {
                return NONE;
            }
            for (int i = 0; i < count; i++) {
                if (isSpelled(i, row, from, length)) {
                    return i;
                }
            }
            if (count >= MOST_MADE_NAMES) {
                return NONE;
            }
            System.arraycopy(row, from, signs, count * MOST_SIGNS, length);
            lengths[count] = length;
            count++;
            return count - 1;
        }

        private boolean isSpelled(int i, int[] row, int from, int length) {
            if (lengths[i] != length) {
                return false;
            }
            for (int j = 0; j < length; j++) {
                if (signs[i * MOST_SIGNS + j] != row[from + j]) {
                    return false;
                }
            }
            return true;
        }
    }

    /** The input, kept with its first token on top, since tokens come and go there. */
    private static final class Input {
        private final int[] stack;
        private int size;

        Input() {
            stack = new int[MOST_TOKENS];
            size = 0;
        }

        boolean isEmpty() {
            return size <= 0;
        }

        boolean isFull() {
            return size >= MOST_TOKENS;
        }

        int get(int i) {
            return i >= 0 && i < size ? stack[size - 1 - i] : NONE;
        }

        int take() {
            if (size <= 0) {
                return NONE;
            }
            size--;
            return stack[size];
        }

        void put(int token) {
            if (size < MOST_TOKENS) {
                stack[size] = token;
                size++;
            }
        }

        void putAll(Row row) {
            for (int i = row.size - 1; i >= 0; i--) {
                put(row.get(i));
            }
        }

        void addLast(int token) {
            if (size < MOST_TOKENS) {
                System.arraycopy(stack, 0, stack, 1, size);
                stack[0] = token;
                size++;
            }
        }

        void drop(int tokens) {
            size = Math.max(0, size - Math.max(0, tokens));
        }

        void clear() {
            size = 0;
        }

        boolean beginsWith(Row row) {
            if (row.size > size) {
                return false;
            }
            for (int i = 0; i < row.size; i++) {
                if (get(i) != row.get(i)) {
                    return false;
                }
            }
            return true;
        }
    }

    /** The first macro expansions of the latest expand(). */
    private static final class Trace {
        private final int[] names;
        private final int[] taken;
        private final int[] brought;
        private int count;

        Trace() {
            names = new int[MOST_TRACED];
            taken = new int[MOST_TRACED];
            brought = new int[MOST_TRACED];
            count = 0;
        }

        void clear() {
            count = 0;
        }

        void add(int name, int tokensTaken, int tokensBrought) {
            if (count < MOST_TRACED) {
                names[count] = name;
                taken[count] = tokensTaken;
                brought[count] = tokensBrought;
                count++;
            }
        }

        int get(int i, int what) {
            if (i < 0 || i >= count || i >= MOST_TRACED) {
                return NONE;
            }
            if (what == 0) {
                return names[i];
            }
            if (what == 1) {
                return taken[i];
            }
            return what == 2 ? brought[i] : NONE;
        }
    }

    /** Reads a macro's arguments from the input; its methods answer a fault, or 0. */
    private static final class Arguments {
        private final Input input;
        private final Book book;
        private final Row[] rows;

        Arguments(Input input, Book book) {
            this.input = input;
            this.book = book;
            rows = new Row[MOST_ARGUMENTS];
            for (int k = 0; k < rows.length; k++) {
                rows[k] = new Row(MOST_IN_ARGUMENT);
            }
        }

        Row argument(int k) {
            return rows[Math.max(0, Math.min(k - 1, rows.length - 1))];
        }

        int sizeOfAll(int arguments) {
            int sum = 0;
            for (int k = 1; k <= arguments; k++) {
                sum += argument(k).size;
            }
            return sum;
        }

        /** Row 0 of a macro, token by token. */
        int readRow(Row row) {
            for (int i = 0; i < row.size; i++) {
                if (input.isEmpty()) {
                    return FAULT_ENDED;
                }
                int token = input.take();
                if (book.isOuter(token)) {
                    return FAULT_FORBIDDEN;
                }
                if (token != row.get(i)) {
                    return FAULT_NOT_ROW;
                }
            }
            return 0;
        }

        /** An argument with an empty row behind it: the next token, or all within OPEN and its CLOSE. */
        int readNext(int k, Macro macro) {
            Row argument = argument(k);
            argument.clear();
            for (int i = 0; i < MOST_TOKENS && input.get(0) == BLANK; i++) {
                input.take();
            }
            int depth = 0;
            for (int i = 0; i < MOST_TOKENS && !input.isEmpty(); i++) {
                int token = input.take();
                if (isForbidden(token, macro)) {
                    return FAULT_FORBIDDEN;
                }
                int depthBefore = depth;
                depth += Kind.nesting(token);
                if (depth < 0) {
                    return FAULT_CLOSE;
                }
                if (depthBefore == 0 && depth == 1) {
                    continue;
                }
                if (depthBefore == 1 && depth == 0) {
                    return 0;
                }
                if (argument.isFull()) {
                    return FAULT_ROOM;
                }
                argument.add(token);
                if (depth == 0) {
                    return 0;
                }
            }
            return FAULT_ENDED;
        }

        /** An argument with a row behind it: all up to that row, without the OPEN and CLOSE round all of it. */
        int readUpTo(Row end, int k, Macro macro) {
            Row argument = argument(k);
            argument.clear();
            int depth = 0;
            for (int i = 0; i < MOST_TOKENS && !input.isEmpty(); i++) {
                if (depth == 0 && input.beginsWith(end)) {
                    input.drop(end.size);
                    argument.leaveOutOuterPair();
                    return 0;
                }
                int token = input.take();
                if (isForbidden(token, macro)) {
                    return FAULT_FORBIDDEN;
                }
                depth += Kind.nesting(token);
                if (depth < 0) {
                    return FAULT_CLOSE;
                }
                if (argument.isFull()) {
                    return FAULT_ROOM;
                }
                argument.add(token);
            }
            return FAULT_ENDED;
        }

        private boolean isForbidden(int token, Macro macro) {
            return token == PARAGRAPH && !macro.isLong || book.isOuter(token);
        }
    }

    /**
     * Expands the input's first token; its methods answer a fault, or 0.
     * NAMING and AFTER that are not through yet are frames, the innermost one last.
     */
    private static final class Expander {
        private final int granted;
        private final Input input;
        private final Book book;
        private final Spelling spelling;
        private final Trace trace;
        private final Arguments arguments;
        // A frame of AFTER keeps the token that it put aside, one of NAMING keeps NONE and its signs.
        private final int[] aside;
        private final int[] signs;
        private final int[] signCounts;
        private int frames;
        private boolean afterIsNew;
        private boolean isHeld;
        private int steps;
        private int nameAtWork;

        Expander(int granted, Input input, Book book, Spelling spelling) {
            this.granted = granted;
            this.input = input;
            this.book = book;
            this.spelling = spelling;
            trace = new Trace();
            arguments = new Arguments(input, book);
            aside = new int[MOST_FRAMES];
            signs = new int[MOST_FRAMES * MOST_SIGNS];
            signCounts = new int[MOST_FRAMES];
        }

        void begin() {
            trace.clear();
            frames = 0;
            afterIsNew = false;
            isHeld = false;
            steps = 0;
            nameAtWork = 0;
        }

        boolean canExpand() {
            int token = input.get(0);
            return !isHeld && (token == HOLD || token == AFTER || token == NAMING || book.macroOf(token) != null);
        }

        /** Takes a first token that is not expanded; HOLD has done its work with that. */
        int takeFirst() {
            isHeld = false;
            return input.take();
        }

        /** Expands the first token once, and with it all that its NAMING and AFTER want expanded. */
        int expandOnce() {
            int found = expandFirst();
            for (int turn = 0; turn < MOST_FRAME_TURNS && found == 0 && frames > 0; turn++) {
                boolean inNaming = aside[frames - 1] == NONE;
                boolean wantsExpansion = inNaming || afterIsNew;
                afterIsNew = false;
                if (wantsExpansion && canExpand()) {
                    found = expandFirst();
                } else {
                    found = inNaming ? goOnNaming() : putBack();
                }
            }
            return found;
        }

        private int expandFirst() {
            if (steps >= granted) {
                return FAULT_STEPS;
            }
            steps++;
            int token = input.take();
            if (token == HOLD) {
                isHeld = true;
                return input.isEmpty() ? FAULT_ENDED : 0;
            }
            if (token == AFTER) {
                return beginAfter();
            }
            if (token == NAMING) {
                return beginNaming();
            }
            Macro macro = book.macroOf(token);
            return macro == null ? 0 : expandName(token, macro);
        }

        private int beginAfter() {
            if (input.size < 2) {
                return FAULT_ENDED;
            }
            if (frames >= MOST_FRAMES) {
                return FAULT_ROOM;
            }
            aside[frames] = input.take();
            frames++;
            afterIsNew = true;
            return 0;
        }

        private int putBack() {
            if (input.isFull()) {
                return FAULT_ROOM;
            }
            frames--;
            // The token that comes in front is not the one that HOLD meant.
            isHeld = false;
            input.put(aside[frames]);
            return 0;
        }

        private int beginNaming() {
            if (frames >= MOST_FRAMES) {
                return FAULT_ROOM;
            }
            aside[frames] = NONE;
            signCounts[frames] = 0;
            frames++;
            return 0;
        }

        private int goOnNaming() {
            if (input.isEmpty()) {
                return FAULT_ENDED;
            }
            int token = takeFirst();
            int frame = frames - 1;
            int count = signCounts[frame];
            if (token == NAMED) {
                return endNaming(frame, count);
            }
            if (!Kind.isSign(token) || count >= MOST_SIGNS) {
                return FAULT_NAMING;
            }
            signs[frame * MOST_SIGNS + count] = token;
            signCounts[frame] = count + 1;
            return 0;
        }

        private int endNaming(int frame, int count) {
            if (count == 0) {
                return FAULT_NAMING;
            }
            int number = spelling.numberOf(signs, frame * MOST_SIGNS, count);
            if (number == NONE) {
                return FAULT_ROOM;
            }
            frames--;
            input.put(MADE_NAMES + number);
            return 0;
        }

        private int expandName(int token, Macro macro) {
            int nameBefore = nameAtWork;
            nameAtWork = token;
            int found = arguments.readRow(macro.row(0));
            for (int k = 1; k <= macro.arguments && found == 0; k++) {
                Row end = macro.row(k);
                found = end.size == 0 ? arguments.readNext(k, macro) : arguments.readUpTo(end, k, macro);
            }
            if (found != 0) {
                return found;
            }
            int coming = sizeOfText(macro);
            if (coming > MOST_TOKENS - input.size) {
                return FAULT_ROOM;
            }
            putText(macro);
            trace.add(token, arguments.sizeOfAll(macro.arguments), coming);
            nameAtWork = nameBefore;
            return 0;
        }

        private int sizeOfText(Macro macro) {
            int sum = 0;
            for (int i = 0; i < macro.text.size; i++) {
                int k = Kind.argumentOf(macro.text.get(i));
                if (k == 0) {
                    sum++;
                } else if (k <= macro.arguments) {
                    sum += arguments.argument(k).size;
                }
            }
            return sum;
        }

        private void putText(Macro macro) {
            for (int i = macro.text.size - 1; i >= 0; i--) {
                int token = macro.text.get(i);
                int k = Kind.argumentOf(token);
                if (k == 0) {
                    input.put(Kind.isParameter(token) ? token - LEVEL : token);
                } else if (k <= macro.arguments) {
                    input.putAll(arguments.argument(k));
                }
            }
        }
    }

    /** A definition that is being read, token by token; its methods answer a fault, or 0. */
    private static final class Definition {
        private static final int NOT_READ = 0;
        private static final int AT_NAME = 1;
        private static final int AT_ROWS = 2;
        private static final int AT_TEXT = 3;
        private static final int READ = 4;

        private final Row[] rows;
        private final Row text;
        private int stage;
        private boolean isExpanded;
        private int name;
        private int arguments;
        private int depth;

        Definition() {
            rows = new Row[MOST_ARGUMENTS + 1];
            for (int k = 0; k < rows.length; k++) {
                rows[k] = new Row(MOST_IN_ROW);
            }
            text = new Row(MOST_IN_ROW);
            stage = NOT_READ;
        }

        void begin(boolean expanded) {
            for (int k = 0; k < rows.length; k++) {
                rows[k].clear();
            }
            text.clear();
            stage = AT_NAME;
            isExpanded = expanded;
            name = 0;
            arguments = 0;
            depth = 1;
        }

        void leave() {
            stage = NOT_READ;
        }

        boolean isUnderWay() {
            return stage != NOT_READ;
        }

        boolean isRead() {
            return stage == READ;
        }

        boolean takesTokensAsTheyAre() {
            return isUnderWay() && !(stage == AT_TEXT && isExpanded);
        }

        int accept(int token) {
            if (stage == AT_NAME) {
                return acceptName(token);
            }
            return stage == AT_ROWS ? acceptInRows(token) : acceptInText(token);
        }

        private int acceptName(int token) {
            if (!Kind.isName(token)) {
                return FAULT_DEFINITION;
            }
            name = token;
            stage = AT_ROWS;
            return 0;
        }

        private int acceptInRows(int token) {
            if (token == OPEN) {
                stage = AT_TEXT;
                return 0;
            }
            if (token == CLOSE) {
                return FAULT_DEFINITION;
            }
            if (Kind.isParameter(token)) {
                if (Kind.argumentOf(token) != arguments + 1) {
                    return FAULT_DEFINITION;
                }
                arguments++;
                return 0;
            }
            return addTo(rows[Math.max(0, Math.min(arguments, rows.length - 1))], token);
        }

        private int acceptInText(int token) {
            depth += Kind.nesting(token);
            if (depth == 0) {
                stage = READ;
                return 0;
            }
            if (Kind.argumentOf(token) > arguments) {
                return FAULT_DEFINITION;
            }
            return addTo(text, token);
        }

        private static int addTo(Row row, int token) {
            if (row.isFull()) {
                return FAULT_ROOM;
            }
            row.add(token);
            return 0;
        }

        Macro toMacro(int marks) {
            Macro macro = new Macro(arguments, marks);
            for (int k = 0; k <= arguments && k < rows.length; k++) {
                macro.row(k).copyFrom(rows[k]);
            }
            macro.text.copyFrom(text);
            return macro;
        }
    }

    /** The whole expansion: carries out, or puts out, what is not expanded; answers a fault, or 0. */
    private static final class Whole {
        private final Input input;
        private final Book book;
        private final Expander expander;
        private final Definition definition;
        private final Row output;
        private int marks;
        private int later;

        Whole(Input input, Book book, Expander expander) {
            this.input = input;
            this.book = book;
            this.expander = expander;
            definition = new Definition();
            output = new Row(MOST_TOKENS);
            marks = 0;
            later = NONE;
        }

        int run() {
            output.clear();
            definition.leave();
            marks = 0;
            later = NONE;
            for (int turn = 0; turn < MOST_TURNS && !input.isEmpty(); turn++) {
                int found;
                if (!definition.takesTokensAsTheyAre() && expander.canExpand()) {
                    found = expander.expandOnce();
                } else if (definition.isUnderWay()) {
                    found = goOnDefining(expander.takeFirst());
                } else {
                    found = carryOut(expander.takeFirst());
                }
                if (found != 0) {
                    return found;
                }
            }
            return marks != 0 || definition.isUnderWay() ? FAULT_ENDED : 0;
        }

        private int carryOut(int token) {
            int mark = Kind.markOf(token);
            if (mark != 0) {
                marks |= mark;
                return 0;
            }
            if (token == DEFINE || token == DEFINE_EXPANDED) {
                definition.begin(token == DEFINE_EXPANDED);
                return 0;
            }
            // With marks LATER is not carried out, so whether a token follows it does not matter then.
            if (marks != 0) {
                return FAULT_DEFINITION;
            }
            if (token == LATER) {
                return takeLater();
            }
            if (output.isFull()) {
                return FAULT_ROOM;
            }
            output.add(token);
            return 0;
        }

        private int takeLater() {
            if (input.isEmpty()) {
                return FAULT_ENDED;
            }
            later = input.take();
            return 0;
        }

        private int goOnDefining(int token) {
            int found = definition.accept(token);
            expander.nameAtWork = definition.name;
            if (found != 0 || !definition.isRead()) {
                return found;
            }
            if (book.isFull()) {
                return FAULT_ROOM;
            }
            book.enter(definition.name, definition.toMacro(marks), marks);
            definition.leave();
            expander.nameAtWork = 0;
            marks = 0;
            if (later != NONE) {
                input.put(later);
                later = NONE;
            }
            return 0;
        }
    }
}
