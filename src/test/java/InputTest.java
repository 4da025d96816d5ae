/** Promises 5, 7 and 12: the input, the output, and their room. */
public final class InputTest extends Check {
    public static void main(String[] args) {
        tokensComeAndGo();
        roomOfInput();
        roomBehindAfter();
        roomOfOutput();
        roomOfExpansion();
        finish();
    }

    private static void tokensComeAndGo() {
        MacroExpand x = fresh();
        same("token", x.token(1199), 1);
        same("none", x.token(259), -2);
        same("token", x.token(0), 2);
        input("told", x, 1199, 0);
        same("input(-1)", x.input(-1), -1);
        same("input(lowest)", x.input(Integer.MIN_VALUE), -1);
        same("input(highest)", x.input(Integer.MAX_VALUE), -1);
        whole("told", x, 1199, 0);
        same("at(-1)", x.at(-1), -1);
        same("at(lowest)", x.at(Integer.MIN_VALUE), -1);
        same("at(highest)", x.at(Integer.MAX_VALUE), -1);
        feed(x, "ab");
        once("nothing to expand", x, "ab");
        output("the output stays with one expansion", x, 1199, 0);
        feed(x, "c");
        whole("at the end", x, "abc");
        whole("the output is empty before", x);
    }

    /** Names 0, 1 and 2, by which twenty tokens become 7 * 400 and 193 'y'. */
    static MacroExpand growing() {
        MacroExpand x = fresh();
        macro(x, 0, 1, 0, rows(), name(1), OPEN, times(5, par(1)), CLOSE);
        macro(x, 1, 1, 0, rows(), name(2), OPEN, times(4, par(1)), CLOSE);
        macro(x, 2, 1, 0, rows(), times(7, par(1)), times(193, "y"));
        return x;
    }

    private static void roomOfInput() {
        MacroExpand x = growing();
        feed(x, name(0), OPEN, times(20, "x"), CLOSE);
        same("once", x.expand(false), 103);
        same("twice", x.expand(false), 403);
        same("argument of 400", x.expand(false), 2993);
        same("traced argument", x.traced(0, 1), 400);
        same("traced coming", x.traced(0, 2), 2993);
        for (int i = 2994; i <= 3000; i++) {
            same("token", x.token('z'), i);
        }
        same("token 3001", x.token('z'), -4);
        same("no token 3001", x.token(259), -2);
        same("last one", x.input(2999), 'z');
        same("behind it", x.input(3000), -1);
        same("all of it", x.expand(true), 3000);
        same("at(2799)", x.at(2799), 'x');
        same("at(2800)", x.at(2800), 'y');
        same("at(2999)", x.at(2999), 'z');
        same("at(3000)", x.at(3000), -1);
    }

    private static void roomBehindAfter() {
        behindAfter(6, 3000);
        behindAfter(7, -8);
        behindAfter(8, -8);
    }

    private static void behindAfter(int tail, int due) {
        MacroExpand x = growing();
        // Name 1 now brings AFTER and t before name 2 and its argument of 400.
        macro(x, 1, 1, 0, rows(), AFTER, "t", name(2), OPEN, times(4, par(1)), CLOSE);
        feed(x, name(0), OPEN, times(20, "x"), CLOSE, times(tail, "z"));
        x.expand(false);
        x.expand(false);
        same("AFTER is first", x.input(0), AFTER);
        same("AFTER with " + tail, x.expand(false), due);
        same("steps", x.fault(2), 2);
        same("fault", x.fault(0), due < 0 ? 8 : 0);
        // With 7 the name's expansion was through, with 8 it was not.
        same("name", x.fault(1), tail == 8 ? name(2) : 0);
        same("traced", x.traced(0, 0), tail == 8 ? -1 : name(2));
        same("first", x.input(0), due < 0 ? -1 : 't');
    }

    private static void roomOfOutput() {
        MacroExpand x = growing();
        feed(x, name(0), OPEN, times(20, "x"), CLOSE, "1234567");
        same("3000 put out", x.expand(true), 3000);
        macro(x, 3, 0, 0, rows(), times(8, "v"));
        feed(x, name(0), OPEN, times(20, "x"), CLOSE, name(3), "w");
        faulted("3001 put out", x, 8, 0, 4);
        same("what was put out stays", x.at(2999), 'v');
        same("at(3000)", x.at(3000), -1);
        whole("then empty", x);
    }

    private static void roomOfExpansion() {
        MacroExpand x = growing();
        feed(x, name(0), OPEN, times(20, "x"), CLOSE, "12345678");
        faulted("input of 3001", x, 8, name(2), 3);
        same("not traced", x.traced(2, 0), -1);
        same("traced before", x.traced(1, 0), name(1));
        feed(x, "q");
        whole("goes on", x, "q");
        feed(x, name(0), OPEN, times(21, "x"), CLOSE);
        faulted("argument of 420", x, 8, name(2), 3);
    }
}
