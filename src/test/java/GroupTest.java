/** Promises 9 and 13: groups, and the macros that names have. */
public final class GroupTest extends Check {
    public static void main(String[] args) {
        twentyGroups();
        namesComeBack();
        globalOnesStay();
        readDefinitions();
        finish();
    }

    private static void twentyGroups() {
        MacroExpand x = fresh();
        same("none is open", x.group(false), -3);
        for (int i = 1; i <= 20; i++) {
            same("opens", x.group(true), i);
        }
        same("21st", x.group(true), -4);
        same("global in twenty", x.define(0, 0, 4), 0);
        for (int i = 19; i >= 0; i--) {
            same("ends", x.group(false), i);
        }
        same("none is open again", x.group(false), -3);
        same("global outside of twenty", x.macro(0), 0);
    }

    private static void namesComeBack() {
        MacroExpand x = fresh();
        x.define(0, 0, 0);
        x.group(true);
        same("as before", x.macro(0), 0);
        x.define(0, 0, 0);
        x.define(1, 0, 3);
        x.group(true);
        x.define(1, 0, 0);
        same("inner", x.macro(1), 3);
        x.group(false);
        same("middle 0", x.macro(0), 1);
        same("middle 1", x.macro(1), 2);
        x.group(false);
        same("outside 0", x.macro(0), 0);
        same("outside 1", x.macro(1), -1);
        same("numbers are not used again", x.define(5, 0, 0), 4);
        same("bodies of macros without name", x.body(3, 'a'), 1);
        feed(x, name(1));
        whole("a name without macro", x, name(1));
    }

    private static void globalOnesStay() {
        MacroExpand x = fresh();
        x.define(0, 0, 0);
        x.group(true);
        x.group(true);
        same("global", x.define(0, 0, 4), 1);
        same("local behind it", x.define(0, 0, 0), 2);
        same("latest", x.macro(0), 2);
        x.group(false);
        same("global in the middle", x.macro(0), 1);
        x.define(0, 0, 0);
        x.define(0, 0, 5);
        x.group(false);
        same("global outside", x.macro(0), 4);
        x.define(1, 0, 4);
        x.group(true);
        x.group(false);
        same("global without group", x.macro(1), 5);
    }

    private static void readDefinitions() {
        MacroExpand x = fresh();
        feed(x, DEFINE, name(0), "{a}");
        x.expand(true);
        x.group(true);
        feed(x, DEFINE, name(0), "{b}", GLOBAL, DEFINE, name(1), "{c}", DEFINE, name(2), "{d}", name(0), name(1), name(2));
        whole("within", x, "bcd");
        x.group(false);
        feed(x, name(0), name(1), name(2));
        whole("outside", x, "ac", name(2));
        feed(x, "{", DEFINE, name(0), "{e}}", name(0));
        whole("OPEN and CLOSE are no group", x, "{}e");
    }
}
