/** Promise 11. */
public final class TraceTest extends Check {
    public static void main(String[] args) {
        whatIsTraced();
        firstHundred();
        finish();
    }

    private static void expansion(MacroExpand x, int i, int name, int taken, int came) {
        same("traced(" + i + ", 0)", x.traced(i, 0), name);
        same("traced(" + i + ", 1)", x.traced(i, 1), taken);
        same("traced(" + i + ", 2)", x.traced(i, 2), came);
        same("traced(" + i + ", 3)", x.traced(i, 3), -1);
        same("traced(" + i + ", -1)", x.traced(i, -1), -1);
    }

    private static void whatIsTraced() {
        MacroExpand x = fresh();
        macro(x, 0, 2, 0, rows("", "", "!"), par(2), par(2), name(1), par(5));
        macro(x, 1, 0, 0, rows());
        feed(x, HOLD, name(1), name(0), "_{ab}{cde}!", AFTER, "x", name(1), NAMING, "a", name(1), NAMED);
        same("expand", x.expand(true), 9);
        expansion(x, 0, name(0), 5, 7);
        expansion(x, 1, name(1), 0, 0);
        expansion(x, 2, name(1), 0, 0);
        expansion(x, 3, name(1), 0, 0);
        expansion(x, 4, -1, -1, -1);
        expansion(x, -1, -1, -1, -1);
        expansion(x, Integer.MAX_VALUE, -1, -1, -1);
        feed(x, name(1), name(0), "a");
        faulted("fault", x, 1, name(0), 2);
        expansion(x, 0, name(1), 0, 0);
        expansion(x, 1, -1, -1, -1);
        feed(x, name(1));
        once("once", x);
        expansion(x, 0, name(1), 0, 0);
        once("none", x);
        expansion(x, 0, -1, -1, -1);
    }

    private static void firstHundred() {
        MacroExpand x = fresh();
        macro(x, 0, 1, 0, rows("", "."), par(1), "b");
        for (int i = 0; i < 101; i++) {
            feed(x, name(0), i == 99 ? "aa" : "a", ".");
        }
        same("expand", x.expand(true), 203);
        same("steps", x.fault(2), 101);
        expansion(x, 98, name(0), 1, 2);
        expansion(x, 99, name(0), 2, 3);
        expansion(x, 100, -1, -1, -1);
    }
}
