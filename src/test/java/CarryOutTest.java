/** Promises 6 and 8: definitions that are read, their marks, LATER, and the name that a fault tells. */
public final class CarryOutTest extends Check {
    public static void main(String[] args) {
        definitions();
        definitionFaults();
        definitionRoom();
        expandedDefinitions();
        expandedFaults();
        marks();
        later();
        faultsTellTheLatest();
        finish();
    }

    private static void definitions() {
        MacroExpand x = fresh();
        feed(x, DEFINE, name(0), "(", par(1), ",", par(2), ")", "{", par(2), "{", par(1), "}", "}", name(0), "(a,b)c");
        whole("rows", x, "b{a}c");
        same("no step but the expansion", x.fault(2), 1);
        same("number", x.macro(0), 0);
        feed(x, DEFINE, name(1), par(1), par(2), "{", par(1), "-", par(2), "}", name(1), "_ab");
        whole("empty rows", x, "a-b");
        feed(x, DEFINE, name(2), "{", DEFINE, name(3), par(1, 1), "{", par(1, 1), par(1, 1), "}}", name(2), name(3), "q");
        whole("inner definition", x, "qq");
        same("inner number", x.macro(3), 3);
        feed(x, DEFINE, name(4), "{", name(0), HOLD, AFTER, "}", name(4));
        same("body is taken as it is", x.expand(true), -3);
        same("name of the fault", x.fault(1), name(0));
        feed(x, DEFINE, name(0), "_{a}", name(0), "_b");
        whole("BLANK is a delimiter", x, "ab");
        same("delimiter of the new macro", x.delimiter(x.macro(0), 0, '!'), 2);
        same("body of the new macro", x.body(x.macro(0), '!'), 2);
        same("no argument 1", x.delimiter(x.macro(0), 1, '!'), -2);
        feed(x, name(0), "_!");
        whole("told more", x, "a!");
        feed(x, DEFINE, name(5), par(1), par(2), par(3), par(4), par(5), par(6), par(7), par(8), par(9), "{", par(9), "}",
                name(5), "123456789");
        whole("nine arguments", x, "9");
        feed(x, DEFINE, name(5), par(1), par(2), par(3), par(4), par(5), par(6), par(7), par(8), ".", par(9), "!",
                "{", par(8), par(9), "}", name(5), "123456788.99!");
        whole("rows behind the last ones", x, "8899");
        feed(x, DEFINE, name(6), "{", DEFINE, "}", DEFINE, name(7), name(6), "{o}", name(7), name(6));
        whole("names are delimiters, too", x, "o");
    }

    private static void definitionFaults() {
        MacroExpand x = fresh();
        int[] noNames = {'a', BLANK, OPEN, CLOSE, HOLD, DEFINE, LONG, LATER, par(1)};
        for (int other : noNames) {
            feed(x, "z", DEFINE, other, name(0), "{}");
            faulted("no name but " + other, x, 6, 0, 0);
            output("before", x, "z");
        }
        feed(x, DEFINE);
        faulted("end", x, 1, 0, 0);
        feed(x, GLOBAL, DEFINE);
        faulted("end behind marks", x, 1, 0, 0);
        feed(x, DEFINE, name(1));
        faulted("end behind the name", x, 1, name(1), 0);
        feed(x, DEFINE, name(1), "a}");
        faulted("CLOSE", x, 6, name(1), 0);
        feed(x, DEFINE, name(1), par(2), "{}");
        faulted("2 before 1", x, 6, name(1), 0);
        feed(x, DEFINE, name(1), par(1), par(1), "{}");
        faulted("1 again", x, 6, name(1), 0);
        feed(x, DEFINE, name(1), par(1, 1), "{}");
        faulted("level 1", x, 6, name(1), 0);
        feed(x, DEFINE, name(1), par(1), "{", par(2), "}");
        faulted("above", x, 6, name(1), 0);
        feed(x, DEFINE, name(1), par(1), "{{", par(9));
        faulted("above, deeper", x, 6, name(1), 0);
        feed(x, DEFINE, name(1), "{{}");
        faulted("end in the body", x, 1, name(1), 0);
        same("nothing was defined", x.macro(1), -1);
        same("no number was used", x.define(0, 0, 0), 0);
    }

    private static void definitionRoom() {
        bodyOf(200, "", 0);
        bodyOf(201, "", 8);
        bodyOf(200, par(1), 6);
        rowOf(200, "", 0);
        rowOf(201, "", 8);
        rowOf(200, par(2), 0);
        rowOf(200, par(3), 6);
        rowOf(200, "}", 6);
    }

    private static void bodyOf(int size, Object behind, int fault) {
        MacroExpand x = fresh();
        feed(x, DEFINE, name(0), "{", times(size, "a"), behind, "}", name(0));
        if (fault == 0) {
            whole("body of " + size, x, times(size, "a"));
        } else {
            faulted("body of " + size, x, fault, name(0), 0);
        }
        MacroExpand y = fresh();
        feed(y, DEFINE, name(0), "{", times(size, "a"));
        faulted("end in a body of " + size, y, size > 200 ? 8 : 1, name(0), 0);
    }

    private static void rowOf(int size, Object behind, int fault) {
        MacroExpand x = fresh();
        feed(x, DEFINE, name(0), times(5, "a"), par(1), times(size, "b"), behind, "{", par(1), "}");
        if (fault == 0) {
            whole("row of " + size, x);
            feed(x, name(0), "aaaaaq", times(size, "b"), behind.equals(par(2)) ? "r" : "");
            whole("expanded with a row of " + size, x, "q");
        } else {
            faulted("row of " + size, x, fault, name(0), 0);
        }
    }

    private static void expandedDefinitions() {
        MacroExpand x = fresh();
        macro(x, 0, 0, 0, rows(), "ab");
        macro(x, 1, 1, 0, rows(), "<", par(1), name(0), ">");
        feed(x, DEFINE_EXPANDED, name(2), par(1), "{", name(1), par(1), HOLD, name(0), name(9), "}");
        whole("defined", x);
        same("steps", x.fault(2), 3);
        macro(x, 0, 0, 0, rows(), "cd");
        feed(x, name(2), "q");
        whole("expanded before", x, "<qab>cd", name(9));
        feed(x, DEFINE_EXPANDED, name(3), name(0), "{", "{", name(0), "}", HOLD, "}", "e");
        whole("rows are not expanded, HOLD before CLOSE", x, "e");
        feed(x, name(3), name(0));
        whole("its row", x, "{cd}");
        feed(x, DEFINE_EXPANDED, name(4), "{", NAMING, name(0), NAMED, AFTER, name(1), name(0), HOLD, HOLD, "}");
        whole("NAMING, AFTER and HOLD HOLD", x);
        feed(x, name(4), name(0));
        whole("NAMING, AFTER and HOLD HOLD expanded", x, 1100, "<ccd>d", name(0));
        feed(x, DEFINE_EXPANDED, name(5), "{", LONG, DEFINE, name(0), "{x}", LATER, "}", name(0));
        whole("nothing is carried out in a body, names in it are expanded", x, "cd");
        feed(x, HOLD, name(5));
        x.expand(true);
        feed(x, DEFINE_EXPANDED, name(6), "{", par(1, 1), "}", name(6));
        whole("levels", x, par(1));
        feed(x, DEFINE_EXPANDED, name(0), "{", name(0), "e}", name(0));
        whole("by itself", x, "cde");
    }

    private static void expandedFaults() {
        MacroExpand x = fresh();
        macro(x, 0, 0, 0, rows(), "{");
        macro(x, 1, 1, 0, rows("!"), "<", par(1), ">");
        macro(x, 2, 0, 0, rows(), times(100, "a"));
        macro(x, 3, 0, 0, rows(), par(1, 1));
        feed(x, DEFINE_EXPANDED, name(5), "{", name(1), "?}");
        faulted("in an expansion", x, 3, name(1), 1);
        feed(x, DEFINE_EXPANDED, name(5), "{", name(1), "!}");
        faulted("CLOSE is no argument", x, 7, name(1), 1);
        feed(x, DEFINE_EXPANDED, name(5), "{", name(0), "}");
        faulted("OPEN from a macro", x, 1, name(5), 1);
        feed(x, DEFINE_EXPANDED, name(5), "{", NAMING, "}");
        faulted("in NAMING", x, 4, name(5), 1);
        feed(x, DEFINE_EXPANDED, name(5), "{", HOLD);
        faulted("HOLD at the end", x, 1, name(5), 1);
        feed(x, DEFINE_EXPANDED, name(5), "{", name(3), "}");
        faulted("parameter from a macro", x, 6, name(5), 1);
        feed(x, DEFINE_EXPANDED, name(5), "{", name(2), name(2), "}");
        whole("200 from macros", x);
        feed(x, DEFINE_EXPANDED, name(5), "{", name(2), name(2), "a}");
        faulted("201 from macros", x, 8, name(5), 2);
        MacroExpand y = new MacroExpand(1);
        macro(y, 0, 0, 0, rows(), name(0));
        feed(y, DEFINE_EXPANDED, name(5), "{", name(0), "}");
        faulted("steps", y, 5, name(5), 1);
        feed(y, name(0));
        faulted("steps outside", y, 5, 0, 1);
    }

    private static void marks() {
        MacroExpand x = fresh();
        macro(x, 9, 0, 0, rows(), DEFINE);
        feed(x, LONG, DEFINE, name(0), par(1), "{", par(1), "}", name(0), PARAGRAPH);
        whole("LONG", x, PARAGRAPH);
        feed(x, OUTER, DEFINE, name(1), "{o}", name(1));
        whole("OUTER", x, "o");
        feed(x, name(0), name(1));
        faulted("OUTER in an argument", x, 2, name(0), 1);
        feed(x, DEFINE, name(2), par(1), "{", par(1), "}", name(2), PARAGRAPH);
        faulted("marks are for one definition", x, 2, name(2), 1);
        feed(x, LONG, LONG, OUTER, GLOBAL, DEFINE_EXPANDED, name(3), par(1), "{", par(1), "}", name(3), PARAGRAPH);
        whole("all of them", x, PARAGRAPH);
        feed(x, LONG, name(9), name(4), par(1), "{", par(1), "}", name(4), PARAGRAPH);
        whole("expanded behind marks", x, PARAGRAPH);
        int[] others = {'a', BLANK, OPEN, CLOSE, NAMED, par(1), name(8)};
        for (int other : others) {
            feed(x, "a", GLOBAL, other, DEFINE, name(5), "{}");
            faulted("marks before " + other, x, 6, 0, 0);
            output("before the marks", x, "a");
        }
        feed(x, OUTER, LATER, "a");
        faulted("marks before LATER", x, 6, 0, 0);
        feed(x, LONG);
        faulted("marks at the end", x, 1, 0, 0);
        feed(x, LONG, HOLD);
        faulted("HOLD behind marks at the end", x, 1, 0, 1);
        feed(x, "a");
        whole("marks are no more", x, "a");
        feed(x, DEFINE, name(0), par(1), "{", par(1), "}", name(0), PARAGRAPH);
        faulted("no mark stays behind a fault", x, 2, name(0), 1);
    }

    private static void later() {
        MacroExpand x = fresh();
        feed(x, LATER, "a", "b", DEFINE, name(0), "{c}", "d", DEFINE, name(0), "{e}", name(0));
        whole("once", x, "bade");
        feed(x, LATER, "a", LATER, "b", DEFINE, name(0), "{c}");
        whole("the latest", x, "b");
        feed(x, LATER, name(0), DEFINE, name(0), "{f}");
        whole("it is expanded then", x, "f");
        feed(x, LATER, DEFINE, DEFINE_EXPANDED, name(0), "{g}", name(1), "{h}", name(1));
        whole("it is carried out then", x, "h");
        feed(x, LATER, "}", GLOBAL, DEFINE, name(0), "{g}", name(0));
        whole("CLOSE", x, "}g");
        feed(x, LATER, HOLD, DEFINE, name(0), "{g}", name(0));
        whole("HOLD", x, name(0));
        feed(x, LATER, "a");
        whole("no definition follows", x);
        feed(x, DEFINE, name(0), "{g}");
        whole("not in the next expand()", x);
        feed(x, LATER, "a", LONG, "b");
        faulted("fault", x, 6, 0, 0);
        feed(x, DEFINE, name(0), "{g}");
        whole("not behind a fault", x);
        feed(x, "a", LATER);
        faulted("end", x, 1, 0, 0);
        output("end", x, "a");
        for (int mark : new int[] {LONG, OUTER, GLOBAL}) {
            feed(x, mark, LATER);
            faulted("marks before LATER at the end, " + mark, x, 6, 0, 0);
            feed(x, mark, HOLD, LATER);
            faulted("marks before LATER behind HOLD at the end, " + mark, x, 6, 0, 1);
        }
        feed(x, GLOBAL, DEFINE, name(0), "{g}", LATER);
        faulted("marks that are used up", x, 1, 0, 0);
    }

    private static void faultsTellTheLatest() {
        MacroExpand x = fresh();
        macro(x, 0, 1, 0, rows(), "a");
        feed(x, DEFINE, name(2), "{b}", LONG, "c");
        faulted("the definition was through", x, 6, 0, 0);
        feed(x, DEFINE, name(2), "{b}", DEFINE, "c");
        faulted("the name of the definition before is not told", x, 6, 0, 0);
        feed(x, name(0), "b", LONG, "c");
        faulted("the expansion was through", x, 6, 0, 1);
        feed(x, DEFINE, name(1), "{b}", name(0), "c", name(0));
        faulted("fault", x, 1, name(0), 2);
        output("what was put out stays", x, "a");
        same("what was defined stays", x.macro(1), 3);
        same("fault(3)", x.fault(3), -2);
        same("fault(-1)", x.fault(-1), -2);
        same("fault(highest)", x.fault(Integer.MAX_VALUE), -2);
        same("fault(lowest)", x.fault(Integer.MIN_VALUE), -2);
        feed(x, name(1));
        once("the next one", x, "b");
        same("fault(0)", x.fault(0), 0);
        same("fault(1)", x.fault(1), 0);
        same("fault(2)", x.fault(2), 1);
        output("the output of the whole one before", x, "a");
    }
}
