/** Promise 1. */
public final class NewObjectTest extends Check {
    public static void main(String[] args) {
        nothingIsThere();
        stepsAreTheNearestOnes();
        finish();
    }

    private static void nothingIsThere() {
        MacroExpand x = new MacroExpand(5);
        for (int n = -1; n <= 200; n++) {
            same("macro(" + n + ")", x.macro(n), -1);
        }
        same("input(0)", x.input(0), -1);
        same("at(0)", x.at(0), -1);
        same("body(0, 1)", x.body(0, 1), -1);
        same("named(-1)", x.named(-1), 0);
        same("traced(0, 0)", x.traced(0, 0), -1);
        same("group(false)", x.group(false), -3);
        for (int what = 0; what < 3; what++) {
            same("fault(" + what + ")", x.fault(what), 0);
        }
        whole("nothing", x);
    }

    private static void stepsAreTheNearestOnes() {
        long[] told = {Long.MIN_VALUE, -1, 0, 1, 2, 19999, 20000, 20001, 1L << 32, Long.MAX_VALUE};
        int[] granted = {1, 1, 1, 1, 2, 19999, 20000, 20000, 20000, 20000};
        for (int i = 0; i < told.length; i++) {
            MacroExpand x = new MacroExpand(told[i]);
            macro(x, 0, 0, 0, rows(), name(0));
            feed(x, name(0));
            faulted("steps " + told[i], x, 5, 0, granted[i]);
            feed(x, name(0));
            faulted("steps again " + told[i], x, 5, 0, granted[i]);
        }
    }
}
