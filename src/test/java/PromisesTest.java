/** Promises 1 to 13, each sentence that names a boundary, in the document's order. */
public final class PromisesTest extends Check {
    private static final int LOWEST = Integer.MIN_VALUE;
    private static final int HIGHEST = Integer.MAX_VALUE;

    public static void main(String[] args) {
        promise1Steps();
        promise1NoMacrosNoInput();
        promise2EmptyBodyAndRows();
        promise2Ranges();
        promise2Hundred();
        promise3Body();
        promise4Delimiter();
        promise5Token();
        promise6Whole();
        promise6Once();
        promise7At();
        promise8Fault();
        promise8Names();
        promise9Group();
        promise10Named();
        promise11Traced();
        promise11FirstHundred();
        promise12Input();
        promise13Macro();
        finish();
    }

    /** "Steps granted to each expand(): from 1 to 20000, the nearest of these to the number told." */
    private static void promise1Steps() {
        long[] told = {Long.MIN_VALUE, Integer.MIN_VALUE, -20000, -1, 0, 1, 2, 19999, 20000, 20001, HIGHEST, 1L << 31, 1L << 32,
            (1L << 32) + 5, Long.MAX_VALUE};
        int[] granted = {1, 1, 1, 1, 1, 1, 2, 19999, 20000, 20000, 20000, 20000, 20000, 20000, 20000};
        for (int i = 0; i < told.length; i++) {
            MacroExpand x = new MacroExpand(told[i]);
            macro(x, 0, 0, 0, rows(), name(0));
            faults("steps " + told[i], x, 5, 0, granted[i], name(0));
            faults("each expand() anew, " + told[i], x, 5, 0, granted[i], name(0));
            feed(x, name(0));
            once("one of them, " + told[i], x, name(0));
            same("one step", x.fault(2), 1);
        }
    }

    /** "No macros, no input." */
    private static void promise1NoMacrosNoInput() {
        MacroExpand x = fresh();
        for (int n = 0; n < 200; n++) {
            same("macro(" + n + ")", x.macro(n), -1);
        }
        same("input(0)", x.input(0), -1);
        same("the first token", x.token('a'), 1);
        same("the first macro", x.define(0, 0, 0), 0);
    }

    /** "A macro with an empty body and empty rows for a name, ..: its number, from 0 on." */
    private static void promise2EmptyBodyAndRows() {
        MacroExpand x = fresh();
        same("first", x.define(0, 9, 0), 0);
        same("second", x.define(0, 0, 0), 1);
        same("third", x.define(199, 9, 0), 2);
        for (int row = 0; row <= 9; row++) {
            same("row " + row, x.delimiter(0, row, 'a'), 1);
        }
        same("body", x.body(0, 'a'), 1);
        gives("nine arguments, nothing comes", x, tokens(name(199), "123456789a"), "a");
        gives("no argument, nothing comes", x, tokens(name(0), "a"), "a");
        same("what came", x.traced(0, 2), 0);
    }

    /** "-2 no such name, arguments not 0 .. 9, marks not 0 .. 7". */
    private static void promise2Ranges() {
        MacroExpand x = fresh();
        for (int n : new int[] {LOWEST, -1000, -1, 200, 1000, 1199, HIGHEST}) {
            same("name " + n, x.define(n, 0, 0), -2);
        }
        for (int arguments : new int[] {LOWEST, -1, 10, 11, HIGHEST}) {
            same("arguments " + arguments, x.define(0, arguments, 0), -2);
        }
        for (int marks : new int[] {LOWEST, -1, 8, 9, 16, HIGHEST}) {
            same("marks " + marks, x.define(0, 0, marks), -2);
        }
        same("no macro", x.macro(0), -1);
        int number = 0;
        for (int n : new int[] {0, 1, 99, 100, 198, 199}) {
            same("name " + n, x.define(n, 0, 0), number++);
        }
        for (int arguments = 0; arguments <= 9; arguments++) {
            same("arguments " + arguments, x.define(0, arguments, 0), number++);
            same("its last row", x.delimiter(number - 1, arguments, 'a'), 1);
            same("none behind it", x.delimiter(number - 1, arguments + 1, 'a'), -2);
        }
        for (int marks = 0; marks <= 7; marks++) {
            same("marks " + marks, x.define(0, 0, marks), number++);
        }
        same("the latest", x.macro(0), number - 1);
    }

    /** "-4 there are 100." */
    private static void promise2Hundred() {
        MacroExpand x = fresh();
        for (int i = 0; i < 100; i++) {
            same("define", x.define(7, 0, 0), i);
        }
        same("the 101st", x.define(7, 0, 0), -4);
        same("of another name", x.define(8, 0, 0), -4);
        same("the latest", x.macro(7), 99);
        same("none", x.macro(8), -1);
        same("the last has a body", x.body(99, 'a'), 1);
        same("there is no 101st", x.body(100, 'a'), -1);
        x.group(true);
        same("in a group, too", x.define(7, 0, 4), -4);
        same("the latest still", x.macro(7), 99);
    }

    /** "One more token of a macro's body: how many it has. -1 no such macro; -2 no token; -4 there are 200." */
    private static void promise3Body() {
        MacroExpand x = fresh();
        same("no macro", x.body(0, 'a'), -1);
        x.define(3, 0, 0);
        x.define(4, 0, 0);
        for (int number : new int[] {LOWEST, -1, 2, 3, 99, 100, HIGHEST}) {
            same("macro " + number, x.body(number, 'a'), -1);
        }
        for (int t : new int[] {LOWEST, -1, 259, 270, 310, 400, 999, 1200, HIGHEST}) {
            same("token " + t, x.body(0, t), -2);
        }
        for (int i = 1; i <= 200; i++) {
            same("body", x.body(1, i == 200 ? 'z' : 'a'), i);
        }
        same("the 201st", x.body(1, 'a'), -4);
        same("the other one is empty", x.body(0, 'b'), 1);
        feed(x, name(4), name(3));
        same("how many come", x.expand(true), 201);
        same("the first", x.at(0), 'a');
        same("the 200th", x.at(199), 'z');
        same("behind it", x.at(200), 'b');
    }

    /** "(argument 0 to as many as it has) .. -2 no such row, no token, or OPEN, CLOSE or a parameter; -4 there are 200." */
    private static void promise4Delimiter() {
        MacroExpand x = fresh();
        same("no macro", x.delimiter(0, 0, 'a'), -1);
        x.define(3, 2, 0);
        x.define(4, 0, 0);
        for (int number : new int[] {LOWEST, -1, 2, 99, 100, HIGHEST}) {
            same("macro " + number, x.delimiter(number, 0, 'a'), -1);
        }
        for (int row : new int[] {LOWEST, -1, 3, 9, 10, HIGHEST}) {
            same("row " + row, x.delimiter(0, row, 'a'), -2);
        }
        same("row 1 of no argument", x.delimiter(1, 1, 'a'), -2);
        same("row 0 of no argument", x.delimiter(1, 0, 'a'), 1);
        for (int t : new int[] {LOWEST, -1, OPEN, CLOSE, 259, 270, 310, par(1), par(9), par(1, 1), par(8, 9), 400, 999, 1200}) {
            same("token " + t, x.delimiter(0, 1, t), -2);
        }
        for (int i = 1; i <= 200; i++) {
            same("row 2", x.delimiter(0, 2, 'a'), i);
        }
        same("the 201st", x.delimiter(0, 2, 'a'), -4);
        same("row 1 is its own", x.delimiter(0, 1, HOLD), 1);
        same("row 0, too", x.delimiter(0, 0, name(199)), 1);
        same("the body, too", x.body(0, 'a'), 1);
    }

    /** "One more token at the input's end: how many it has. -2 no token; -4 there are 3000." */
    private static void promise5Token() {
        MacroExpand x = InputTest.growing();
        feed(x, name(0), OPEN, times(20, "x"), CLOSE, "12345");
        x.expand(false);
        x.expand(false);
        same("by expansion", x.expand(false), 2998);
        same("2999", x.token('a'), 2999);
        same("no token", x.token(259), -2);
        same("3000", x.token('b'), 3000);
        same("3001", x.token('c'), -4);
        same("no token, no room", x.token(259), -2);
        same("the last one", x.input(2999), 'b');
        same("none behind it", x.input(3000), -1);
        same("all of it", x.expand(true), 3000);
        same("then it is empty", x.token('d'), 1);
    }

    /** "Whole: the input is expanded and carried out until it is empty, the output empty before". */
    private static void promise6Whole() {
        MacroExpand x = fresh();
        same("nothing", x.expand(true), 0);
        gives("two", x, tokens("ab"), "ab");
        gives("then one", x, tokens("c"), "c");
        same("then nothing", x.expand(true), 0);
        output("nothing", x);
        macro(x, 0, 0, 0, rows());
        gives("a name that brings nothing", x, tokens(name(0), name(0)));
        feed(x, "a", name(0), HOLD);
        same("the fault, negative", x.expand(true), -1);
        output("what came before it", x, "a");
    }

    /** "Else the first token is expanded once, if it can be (nothing is carried out)". */
    private static void promise6Once() {
        MacroExpand x = fresh();
        same("nothing", x.expand(false), 0);
        macro(x, 0, 0, 0, rows(), name(1), "a");
        macro(x, 1, 0, 0, rows());
        feed(x, name(0), name(0));
        once("the first alone", x, name(1), "a", name(0));
        once("it again", x, "a", name(0));
        once("it can't be", x, "a", name(0));
        same("no step", x.fault(2), 0);
        output("nothing is put out", x);
        whole("all", x, "aa");
        feed(x, name(1));
        once("to nothing", x);
        output("the output stays", x, "aa");
        feed(x, HOLD);
        same("the fault, negative", x.expand(false), -1);
        output("the output stays with a fault", x, "aa");
        for (int t : new int[] {LATER, LONG, DEFINE, NAMED, CLOSE, par(1), name(9)}) {
            feed(x, t);
            once("stays, " + t, x, t);
            same("fault of none", x.fault(0), 0);
            feed(x, name(9));
            x.expand(true);
        }
    }

    /** "Token i of the output; -1 when there is none such." */
    private static void promise7At() {
        MacroExpand x = fresh();
        same("none", x.at(0), -1);
        gives("two", x, tokens(0, 1199), 0, 1199);
        for (int i : new int[] {LOWEST, -2, -1, 2, 3, 2999, 3000, HIGHEST}) {
            same("at(" + i + ")", x.at(i), -1);
        }
        feed(x, "abc");
        same("not the input", x.at(2), -1);
        same("still the first", x.at(0), 0);
        whole("it is put out then", x, "abc");
        gives("one", x, tokens("d"), "d");
        same("nothing of the one before", x.at(1), -1);
        x.expand(true);
        same("nothing of the one before", x.at(0), -1);
    }

    /** "Of the latest expand() its fault (what 0; 0 for none), .. (1; 0 for none such), steps made (2); -2 for others." */
    private static void promise8Fault() {
        MacroExpand x = fresh();
        for (int what = 0; what < 3; what++) {
            same("before any, " + what, x.fault(what), 0);
        }
        for (int what : new int[] {LOWEST, -2, -1, 3, 4, HIGHEST}) {
            same("fault(" + what + ")", x.fault(what), -2);
        }
        macro(x, 0, 0, 0, rows("!"), name(1), name(1));
        x.define(1, 0, 0);
        faults("with one", x, 3, name(0), 4, name(0), "!", name(0), "?");
        x.token('a');
        x.define(2, 0, 0);
        same("until the next expand()", x.fault(0), 3);
        same("its name", x.fault(1), name(0));
        same("its steps", x.fault(2), 4);
        x.expand(false);
        for (int what = 0; what < 3; what++) {
            same("behind it, " + what, x.fault(what), 0);
        }
        for (int what : new int[] {LOWEST, -1, 3, HIGHEST}) {
            same("still none, " + what, x.fault(what), -2);
        }
    }

    /** "the token of the name that was expanded or defined when it came (1; 0 for none such)". */
    private static void promise8Names() {
        MacroExpand x = fresh();
        macro(x, 0, 0, 0, rows("!"), "a");
        macro(x, 1, 0, 0, rows(), "b");
        macro(x, 2, 0, 0, rows(), name(0));
        faults("expanded", x, 3, name(0), 1, name(0), "?");
        faults("expanded, brought by another", x, 3, name(0), 2, name(2), "?");
        faults("expanded by AFTER", x, 3, name(0), 2, AFTER, "x", name(0), "?");
        faults("expanded by NAMING", x, 3, name(0), 2, NAMING, name(0), "?");
        faults("expanded in a definition", x, 3, name(0), 1, DEFINE_EXPANDED, name(5), "{", name(0), "?}");
        faults("defined", x, 6, name(5), 0, DEFINE, name(5), "}");
        faults("defined, one was expanded before", x, 6, name(5), 1, DEFINE_EXPANDED, name(5), "{", name(1), par(1));
        faults("defined, NAMING in it", x, 4, name(5), 1, DEFINE_EXPANDED, name(5), "{", NAMING, NAMED);
        faults("defined, AFTER in it", x, 1, name(5), 1, DEFINE_EXPANDED, name(5), "{", AFTER);
        faults("no name yet", x, 6, 0, 0, DEFINE, "a");
        faults("no name at all", x, 1, 0, 1, HOLD);
        faults("one was expanded before", x, 1, 0, 2, name(1), HOLD);
        faults("one was defined before", x, 1, 0, 1, DEFINE, name(5), "{}", HOLD);
        faults("LATER", x, 1, 0, 0, LATER);
        faults("marks", x, 6, 0, 1, LONG, name(1), "a");
        gives("no fault", x, tokens(DEFINE, name(5), "{}", name(5), name(1)), "b");
    }

    /** "A group begins (true), or the latest one that is open ends: how many are open. -3 none is open; -4 there are 20." */
    private static void promise9Group() {
        MacroExpand x = fresh();
        same("none is open", x.group(false), -3);
        for (int round = 0; round < 2; round++) {
            for (int i = 1; i <= 20; i++) {
                same("begins", x.group(true), i);
                x.define(5, 0, 0);
            }
            same("the 21st", x.group(true), -4);
            same("the 21st again", x.group(true), -4);
            for (int i = 19; i >= 0; i--) {
                same("what it has", x.macro(5), 20 * round + i);
                same("ends", x.group(false), i);
            }
            same("none is open then", x.group(false), -3);
            same("as at the beginning", x.macro(5), -1);
        }
    }

    /** "How many names NAMING made (i -1), how many signs name 1100 + i has; -1 when there is none such." */
    private static void promise10Named() {
        MacroExpand x = fresh();
        same("none made", x.named(-1), 0);
        same("none such", x.named(0), -1);
        x.define(100, 0, 0);
        same("a name that was told is not made", x.named(-1), 0);
        same("nor has it signs", x.named(0), -1);
        for (int signs = 1; signs <= 8; signs++) {
            feed(x, NAMING, times(signs, "a"), NAMED);
            x.expand(false);
            same("made", x.named(-1), signs);
            same("its signs", x.named(signs - 1), signs);
            same("none behind it", x.named(signs), -1);
            x.expand(true);
        }
        for (int i : new int[] {LOWEST, -1100, -2, 8, 99, 100, 1100, HIGHEST}) {
            same("named(" + i + ")", x.named(i), -1);
        }
        feed(x, NAMING, "a", NAMED);
        x.expand(true);
        same("made before", x.named(-1), 8);
    }

    /** "Of macro expansion i of the latest expand(), from 0, ..: .. (what 0), .. (1), .. (2); -1 when there is none such." */
    private static void promise11Traced() {
        MacroExpand x = fresh();
        same("none", x.traced(0, 0), -1);
        macro(x, 0, 2, 0, rows("", ",", ""), par(1), par(1), par(2), par(9));
        macro(x, 1, 0, 0, rows());
        feed(x, name(0), "{abc},{de}", AFTER, "f", name(1), HOLD, name(1));
        same("expand", x.expand(true), 10);
        int[][] due = {{name(0), 5, 8}, {name(1), 0, 0}, {-1, -1, -1}};
        for (int i = 0; i < due.length; i++) {
            for (int what = 0; what < 3; what++) {
                same("traced(" + i + ", " + what + ")", x.traced(i, what), due[i][what]);
            }
        }
        for (int what : new int[] {LOWEST, -1, 3, HIGHEST}) {
            same("traced(0, " + what + ")", x.traced(0, what), -1);
        }
        for (int i : new int[] {LOWEST, -1, 2, 99, 100, HIGHEST}) {
            same("traced(" + i + ", 0)", x.traced(i, 0), -1);
        }
        faults("with a fault", x, 1, name(0), 2, name(1), name(0), "a,");
        same("the one before the fault", x.traced(0, 0), name(1));
        same("the one with the fault", x.traced(1, 0), -1);
        feed(x, name(1), "a");
        once("the latest alone", x, "a");
        same("once", x.traced(0, 0), name(1));
        same("one", x.traced(1, 0), -1);
        once("nothing is expanded", x, "a");
        same("none then", x.traced(0, 0), -1);
    }

    /** "the first 100". */
    private static void promise11FirstHundred() {
        MacroExpand x = fresh();
        macro(x, 0, 1, 0, rows(), par(1));
        for (int i = 0; i < 102; i++) {
            feed(x, name(0), i == 99 ? "{ab}" : i == 100 ? "{abc}" : "a");
        }
        same("expand", x.expand(true), 105);
        same("steps", x.fault(2), 102);
        same("the 99th", x.traced(98, 1), 1);
        same("the 100th", x.traced(99, 1), 2);
        same("its name", x.traced(99, 0), name(0));
        for (int what = 0; what < 3; what++) {
            same("the 101st", x.traced(100, what), -1);
            same("the 102nd", x.traced(101, what), -1);
        }
    }

    /** "Token i of the input as it is; -1 when there is none such." */
    private static void promise12Input() {
        MacroExpand x = fresh();
        same("none", x.input(0), -1);
        feed(x, 0, HOLD, 1199);
        input("told", x, 0, HOLD, 1199);
        for (int i : new int[] {LOWEST, -1, 3, 4, 2999, 3000, HIGHEST}) {
            same("input(" + i + ")", x.input(i), -1);
        }
        once("as it is", x, 0, HOLD, 1199);
        whole("put out", x, 0, 1199);
        macro(x, 0, 0, 0, rows(), "abc");
        feed(x, name(0), "d");
        once("more", x, "abcd");
        feed(x, "e");
        input("at its end", x, "abcde");
    }

    /** "The number of the macro that a name (n, 0 to 199) has; -1 for none." */
    private static void promise13Macro() {
        MacroExpand x = fresh();
        x.define(0, 0, 0);
        x.define(199, 0, 0);
        same("macro(0)", x.macro(0), 0);
        same("macro(199)", x.macro(199), 1);
        for (int n : new int[] {LOWEST, -1000, -1, 1, 198, 200, 1000, 1199, HIGHEST}) {
            same("macro(" + n + ")", x.macro(n), -1);
        }
        gives("read", x, tokens(DEFINE, name(100), "{}"));
        same("macro(100)", x.macro(100), 2);
        gives("made by NAMING", x, tokens(NAMING, "a", NAMED));
        same("still", x.macro(100), 2);
        gives("made by NAMING, without macro", x, tokens(NAMING, "b", NAMED), 1101);
        same("none", x.macro(101), -1);
    }
}
