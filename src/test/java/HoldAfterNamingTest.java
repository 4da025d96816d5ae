/** Promises 6 and 10: HOLD, AFTER, NAMING and the names that it makes. */
public final class HoldAfterNamingTest extends Check {
    public static void main(String[] args) {
        holding();
        after();
        afterAndHold();
        naming();
        namingFaults();
        expandedInNaming();
        nesting();
        hundredNames();
        finish();
    }

    private static MacroExpand withMacros() {
        MacroExpand x = fresh();
        macro(x, 0, 0, 0, rows(), "ab");
        macro(x, 1, 1, 0, rows(), "<", par(1), ">");
        macro(x, 2, 0, 0, rows());
        macro(x, 3, 0, 0, rows(), NAMED);
        return x;
    }

    private static void holding() {
        MacroExpand x = withMacros();
        feed(x, HOLD, name(0), name(0), HOLD, "c");
        whole("names", x, name(0), "abc");
        same("steps", x.fault(2), 3);
        same("traced", x.traced(1, 0), -1);
        feed(x, HOLD, HOLD, name(0));
        whole("HOLD is held", x, HOLD, "ab");
        feed(x, HOLD, AFTER, name(0), HOLD, NAMING, "a", NAMED);
        whole("AFTER and NAMING are held", x, AFTER, "ab", NAMING, "a", NAMED);
        feed(x, "a", HOLD);
        faulted("end", x, 1, 0, 1);
        output("end", x, "a");
        feed(x, HOLD, DEFINE, name(5), "{q}", name(5));
        whole("what is carried out is so", x, "q");
        feed(x, HOLD, LONG, HOLD, DEFINE, name(5), "{r}", name(5));
        whole("marks, too", x, "r");
        feed(x, HOLD, LATER, "l", DEFINE, name(5), "{s}", name(5));
        whole("LATER, too", x, "ls");
        feed(x, LONG, HOLD, name(0));
        faulted("with marks", x, 6, 0, 1);
        feed(x, HOLD, name(0));
        once("alone", x, name(0));
        once("not in the next expand()", x, "ab");
        feed(x, name(1), HOLD, name(0));
        whole("the input went on", x, "ab<>ab");
    }

    private static void after() {
        MacroExpand x = withMacros();
        feed(x, AFTER, name(1), name(0));
        once("second first", x, name(1), "ab");
        same("steps", x.fault(2), 2);
        same("traced", x.traced(0, 0), name(0));
        whole("then the first", x, "<a>b");
        feed(x, AFTER, "xy");
        once("nothing to expand", x, "xy");
        same("one step", x.fault(2), 1);
        x.expand(true);
        feed(x, AFTER, "x", name(1), name(0));
        once("takes arguments behind", x, "x<", name(0), ">");
        x.expand(true);
        feed(x, AFTER, "x", AFTER, "y", name(0), "z");
        once("within each other", x, "xyabz");
        same("three steps", x.fault(2), 3);
        x.expand(true);
        macro(x, 4, 0, 0, rows(), name(0), "z");
        feed(x, AFTER, "x", name(4));
        once("only once", x, "x", name(0), "z");
        x.expand(true);
        feed(x, AFTER, "x", AFTER, "y", name(4));
        once("only once within each other", x, "xy", name(0), "z");
        x.expand(true);
        feed(x, AFTER, "x", AFTER, name(0), name(4));
        once("the one put back is not expanded", x, "x", name(0), name(0), "z");
        x.expand(true);
        feed(x, AFTER, "x", NAMING, AFTER, name(4), name(4), NAMED);
        once("NAMING goes on behind its AFTER", x, "x", name(100));
        same("signs with AFTER in NAMING", x.named(0), 6);
        x.define(100, 0, 0);
        feed(x, "?");
        x.expand(true);
        feed(x, AFTER, "x", NAMING, name(4), name(4), NAMED);
        once("the name from NAMING is not expanded", x, "x", name(100));
        x.expand(true);
        feed(x, AFTER);
        faulted("without two", x, 1, 0, 1);
        feed(x, AFTER, "x");
        faulted("with one", x, 1, 0, 1);
        feed(x, AFTER, "x", name(1));
        faulted("the one aside is no token of the input", x, 1, name(1), 2);
        feed(x, AFTER, DEFINE, DEFINE, name(9), "{q}");
        faulted("nothing is carried out before", x, 6, 0, 1);
        feed(x, AFTER, "}", name(1), "a");
        whole("CLOSE aside", x, "}<a>");
    }

    private static void afterAndHold() {
        MacroExpand x = withMacros();
        feed(x, AFTER, name(2), HOLD, name(0));
        whole("another one comes before it", x, "ab");
        same("steps", x.fault(2), 4);
        feed(x, AFTER, name(0), HOLD, name(0));
        whole("nor is the one in front held", x, "abab");
        feed(x, AFTER, HOLD, name(0));
        whole("HOLD aside", x, "ab");
        feed(x, AFTER, "x", HOLD);
        faulted("HOLD at the end", x, 1, 0, 2);
    }

    private static void naming() {
        MacroExpand x = withMacros();
        same("none", x.named(-1), 0);
        feed(x, NAMING, "abc", NAMED);
        whole("first", x, 1100);
        same("steps", x.fault(2), 1);
        feed(x, NAMING, "abcdefgh", NAMED, NAMING, "abc", NAMED, NAMING, PARAGRAPH, NAMED);
        whole("others and the same", x, 1101, 1100, 1102);
        feed(x, NAMING, "ab", NAMED, NAMING, "cba", NAMED);
        whole("begins alike, or other order", x, 1103, 1104);
        feed(x, NAMING, 0, 255, NAMED);
        whole("lowest and highest sign", x, 1105);
        same("how many", x.named(-1), 6);
        same("signs of 0", x.named(0), 3);
        same("signs of 1", x.named(1), 8);
        same("signs of 2", x.named(2), 1);
        same("signs of 5", x.named(5), 2);
        same("signs of 6", x.named(6), -1);
        same("signs of -2", x.named(-2), -1);
        same("signs of the highest", x.named(Integer.MAX_VALUE), -1);
        same("signs of the lowest", x.named(Integer.MIN_VALUE), -1);
        macro(x, 100, 1, 0, rows(), "[", par(1), "]");
        feed(x, NAMING, "abc", NAMED, "z");
        once("the name comes", x, 1100, "z");
        whole("and is like any", x, "[z]");
        feed(x, DEFINE, name(0), "{x}", AFTER, DEFINE, NAMING, "m", NAMED, "{y}", NAMING, "m", NAMED);
        whole("defined", x, "y");
        same("macro", x.macro(106), x.macro(0) + 1);
        feed(x, NAMED);
        whole("NAMED alone", x, NAMED);
    }

    private static void namingFaults() {
        MacroExpand x = withMacros();
        feed(x, NAMING, NAMED);
        faulted("no sign", x, 4, 0, 1);
        feed(x, NAMING, "abcdefghi", NAMED);
        faulted("nine", x, 4, 0, 1);
        feed(x, NAMING, "abcdefgh");
        faulted("end", x, 1, 0, 1);
        feed(x, NAMING, "abcdefghi");
        faulted("ninth before the end", x, 4, 0, 1);
        feed(x, NAMING);
        faulted("end at once", x, 1, 0, 1);
        int[] others = {BLANK, OPEN, CLOSE, DEFINE, DEFINE_EXPANDED, LONG, OUTER, GLOBAL, LATER, par(1), name(9)};
        for (int other : others) {
            feed(x, NAMING, "a", other, NAMED);
            faulted("other token " + other, x, 4, 0, 1);
        }
        feed(x, NAMING, "a", HOLD, name(0), NAMED);
        faulted("held name", x, 4, 0, 2);
        feed(x, NAMING, HOLD, HOLD, "a", NAMED);
        faulted("held HOLD", x, 4, 0, 2);
        feed(x, NAMING, "a", name(1));
        faulted("in an expansion", x, 1, name(1), 2);
        same("no name was made", x.named(-1), 0);
    }

    private static void expandedInNaming() {
        MacroExpand x = withMacros();
        feed(x, NAMING, name(0), name(1), name(0), NAMED);
        whole("names", x, 1100);
        same("signs", x.named(0), 6);
        feed(x, NAMING, "ab<ab>", name(3));
        whole("NAMED comes from a macro", x, 1100);
        feed(x, NAMING, HOLD, "a", HOLD, NAMED, name(0));
        whole("HOLD", x, 1101, "ab");
        feed(x, NAMING, AFTER, "x", name(0), NAMED);
        whole("AFTER", x, 1102);
        same("signs with AFTER", x.named(2), 3);
        feed(x, NAMING, "abcdefgh", name(2), name(3));
        whole("behind eight signs", x, 1103);
        macro(x, 101, 0, 0, rows(), "pq");
        feed(x, NAMING, NAMING, "a", NAMED, "r", NAMED);
        whole("within each other", x, 1104);
        same("signs from the inner one", x.named(4), 3);
        same("steps", x.fault(2), 3);
        feed(x, NAMING, "s", NAMING, "abc", NAMED, NAMED);
        faulted("a made name without macro is no sign", x, 4, 0, 2);
        same("the inner one was made", x.named(5), 3);
    }

    private static void nesting() {
        MacroExpand x = withMacros();
        feed(x, times(50, AFTER, "x"), name(0));
        whole("50 AFTER", x, times(50, "x"), "ab");
        feed(x, times(51, AFTER, "x"), name(0));
        faulted("51 AFTER", x, 8, 0, 51);
        feed(x, times(50, AFTER, "x"), AFTER, "x");
        faulted("51st AFTER without two", x, 1, 0, 51);
        MacroExpand y = withMacros();
        feed(y, times(51, NAMING), "a");
        faulted("51 NAMING", y, 8, 0, 51);
        feed(y, times(50, NAMING));
        faulted("50 NAMING", y, 1, 0, 50);
        feed(y, times(25, NAMING, AFTER, "x"), NAMING, "y");
        faulted("both", y, 8, 0, 51);
        MacroExpand z = new MacroExpand(50);
        feed(z, times(51, NAMING), "a");
        faulted("steps before room", z, 5, 0, 50);
        MacroExpand w = withMacros();
        feed(w, times(30, NAMING, "a", NAMED), times(30, AFTER, "x", "y"));
        whole("one behind another", w, times(30, 1100), times(30, "xy"));
        fiftyNaming();
    }

    /** Fifty NAMING within each other, the inner names being macros that bring a sign. */
    private static void fiftyNaming() {
        MacroExpand x = fresh();
        macro(x, 100, 0, 0, rows(), "a");
        feed(x, times(50, NAMING), "a", times(50, NAMED));
        whole("50 NAMING", x, "a");
        same("steps", x.fault(2), 100);
        same("one name", x.named(-1), 1);
    }

    private static void hundredNames() {
        MacroExpand x = fresh();
        for (int part = 0; part < 2; part++) {
            for (int i = 50 * part; i < 50 * part + 50; i++) {
                feed(x, NAMING, i, NAMED);
            }
            same("fifty", x.expand(true), 50);
        }
        same("last", x.at(49), 1199);
        same("hundred", x.named(-1), 100);
        same("signs of the last", x.named(99), 1);
        same("signs of none", x.named(100), -1);
        feed(x, NAMING, 99, NAMED);
        whole("one that is there", x, 1199);
        feed(x, NAMING, 100, NAMED);
        faulted("one more", x, 8, 0, 1);
        feed(x, NAMING, "aaaaaaaaa", NAMED);
        faulted("signs before room", x, 4, 0, 1);
    }
}
