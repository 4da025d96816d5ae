/** Any calls in any state: none throws, refusals change nothing, and the answers fit together. */
public final class AnyCallsTest extends Check {
    private static final int[] POOL = {'a', 'b', ',', PARAGRAPH, BLANK, OPEN, OPEN, CLOSE, CLOSE, HOLD, AFTER, NAMING,
        NAMED, DEFINE, DEFINE_EXPANDED, LONG, OUTER, GLOBAL, LATER, 311, 312, 321, 331, 1000, 1001, 1002, 1003, 1100};
    private static final int MOST_IN_ONE = 8;
    private static long seed = 20261115;

    public static void main(String[] args) {
        for (int run = 0; run < 3000; run++) {
            oneRun(run);
        }
        finish();
    }

    private static int below(int bound) {
        seed = seed * 6364136223846793005L + 1442695040888963407L;
        return (int) ((seed >>> 33) % bound);
    }

    private static int someToken() {
        return below(40) == 0 ? below(1300) - 20 : POOL[below(POOL.length)];
    }

    private static void oneRun(int run) {
        MacroExpand x = new MacroExpand(below(3) == 0 ? below(30) : 20000);
        // What is asked of an object keeps to its first 512 calls.
        for (int calls = 0; calls <= 512 - MOST_IN_ONE;) {
            calls += oneCall(x);
        }
        if (run % 100 == 0) {
            oddCalls(x);
        }
    }

    /** How many calls were made, or a few more. */
    private static int oneCall(MacroExpand x) {
        int kind = below(100);
        if (kind < 60) {
            x.token(someToken());
        } else if (kind < 68) {
            x.define(below(4), below(3), below(8));
        } else if (kind < 78) {
            x.body(below(8), someToken());
        } else if (kind < 84) {
            x.delimiter(below(8), below(3), someToken());
        } else if (kind < 90) {
            x.group(below(2) == 0);
        } else {
            expandAndCompare(x, below(2) == 0);
            return MOST_IN_ONE;
        }
        return 1;
    }

    private static void expandAndCompare(MacroExpand x, boolean whole) {
        int answer = x.expand(whole);
        same("fault(0)", x.fault(0), answer < 0 ? -answer : 0);
        if (answer < 0 || whole) {
            same("input is empty", x.input(0), -1);
        }
        if (answer >= 0) {
            same("no name", x.fault(1), 0);
            same("behind", whole ? x.at(answer) : x.input(answer), -1);
            same("last is there", answer == 0 || (whole ? x.at(answer - 1) : x.input(answer - 1)) >= 0 ? 1 : 0, 1);
        }
        same("steps", x.fault(2) >= 0 && x.fault(2) <= 20000 ? 1 : 0, 1);
    }

    /** Nothing is asked of these, which may be beyond the 512th call, but that none throws. */
    private static void oddCalls(MacroExpand x) {
        int[] odd = {Integer.MIN_VALUE, -1001, -1000, -2, -1, 0, 1, 99, 100, 199, 200, 1000, 3000, Integer.MAX_VALUE};
        for (int i : odd) {
            x.at(i);
            x.input(i);
            x.fault(i);
            x.named(i);
            x.macro(i);
            for (int j : odd) {
                x.traced(i, j);
                x.define(i, j, i);
                x.body(i, j);
                x.delimiter(i, j, i);
            }
        }
    }
}
