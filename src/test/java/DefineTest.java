/** Promises 2, 3, 4 and 13: macros that are told. */
public final class DefineTest extends Check {
    public static void main(String[] args) {
        numbersAndRefusals();
        bodies();
        delimiters();
        hundredMacros();
        latestMacroCounts();
        finish();
    }

    private static void numbersAndRefusals() {
        MacroExpand x = fresh();
        same("first", x.define(0, 0, 0), 0);
        same("second", x.define(199, 9, 7), 1);
        same("same name", x.define(0, 3, 1), 2);
        same("name -1", x.define(-1, 0, 0), -2);
        same("name 200", x.define(200, 0, 0), -2);
        same("name token", x.define(1000, 0, 0), -2);
        same("arguments -1", x.define(1, -1, 0), -2);
        same("arguments 10", x.define(1, 10, 0), -2);
        same("marks -1", x.define(1, 0, -1), -2);
        same("marks 8", x.define(1, 0, 8), -2);
        same("lowest numbers", x.define(Integer.MIN_VALUE, Integer.MIN_VALUE, Integer.MIN_VALUE), -2);
        same("macro(0)", x.macro(0), 2);
        same("macro(199)", x.macro(199), 1);
        same("macro(1)", x.macro(1), -1);
        same("macro(-1)", x.macro(-1), -1);
        same("macro(200)", x.macro(200), -1);
        same("macro(lowest)", x.macro(Integer.MIN_VALUE), -1);
        same("macro(highest)", x.macro(Integer.MAX_VALUE), -1);
        same("after refusals", x.define(2, 0, 0), 3);
    }

    private static void bodies() {
        MacroExpand x = fresh();
        x.define(3, 0, 0);
        int[] none = {-1, 259, 270, 300, 309, 310, 320, 330, 390, 400, 999, 1200, Integer.MAX_VALUE, Integer.MIN_VALUE};
        for (int token : none) {
            same("body(0, " + token + ")", x.body(0, token), -2);
            same("body(1, " + token + ")", x.body(1, token), -1);
            same("token(" + token + ")", x.token(token), -2);
        }
        same("unknown macro", x.body(-1, 5), -1);
        int[] some = {0, 255, 256, 257, 258, 260, 269, 311, 319, 321, 391, 399, 1000, 1199};
        for (int i = 0; i < some.length; i++) {
            same("body(0, " + some[i] + ")", x.body(0, some[i]), i + 1);
        }
        for (int i = some.length; i < 200; i++) {
            same("body", x.body(0, 97), i + 1);
        }
        same("201st", x.body(0, 97), -4);
        same("201st that is none", x.body(0, 259), -2);
    }

    private static void delimiters() {
        MacroExpand x = fresh();
        x.define(3, 2, 0);
        x.define(4, 0, 0);
        same("unknown macro", x.delimiter(2, 0, 44), -1);
        same("unknown macro and row", x.delimiter(-1, 7, 259), -1);
        same("row -1", x.delimiter(0, -1, 44), -2);
        same("row 3", x.delimiter(0, 3, 44), -2);
        same("row 1 of none", x.delimiter(1, 1, 44), -2);
        int[] none = {-1, 257, 258, 259, 310, 311, 321, 399, 1200};
        for (int token : none) {
            same("delimiter " + token, x.delimiter(0, 1, token), -2);
        }
        same("row 0", x.delimiter(0, 0, 44), 1);
        same("row 2", x.delimiter(0, 2, 256), 1);
        same("row 2 again", x.delimiter(0, 2, 1003), 2);
        for (int i = 0; i < 200; i++) {
            same("row 1", x.delimiter(0, 1, i), i + 1);
        }
        same("201st", x.delimiter(0, 1, 44), -4);
        same("201st that is none", x.delimiter(0, 1, 257), -2);
        same("another row", x.delimiter(0, 0, 44), 2);
    }

    private static void hundredMacros() {
        MacroExpand x = fresh();
        for (int i = 0; i < 100; i++) {
            same("define", x.define(i, 0, 0), i);
        }
        same("101st", x.define(5, 0, 0), -4);
        same("101st of no name", x.define(200, 0, 0), -2);
        same("macro(5)", x.macro(5), 5);
        feed(x, DEFINE, name(5), "{a}b");
        faulted("101st read", x, 8, name(5), 0);
        same("macro(5) still", x.macro(5), 5);
        feed(x, DEFINE, name(5), "{a");
        faulted("room is asked when all is there", x, 1, name(5), 0);
    }

    private static void latestMacroCounts() {
        MacroExpand x = fresh();
        macro(x, 0, 0, 0, rows(), "a");
        int second = macro(x, 0, 0, 0, rows(), "b");
        feed(x, name(0));
        whole("latest", x, "b");
        x.body(second, 'c');
        x.body(0, 'd');
        feed(x, name(0));
        whole("longer body", x, "bc");
        x.delimiter(second, 0, '!');
        feed(x, name(0), "!", name(0), "?");
        same("row 0 is new", x.expand(true), -3);
        output("row 0 is new", x, "bc");
    }
}
