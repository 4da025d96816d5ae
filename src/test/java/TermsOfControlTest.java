/** 'Terms', HOLD, AFTER and NAMING: each sentence that names a boundary, in its order. */
public final class TermsOfControlTest extends Check {
    public static void main(String[] args) {
        holdAtTheEnd();
        holdWhatIsExpanded();
        holdInTheSameExpand();
        holdAndAnotherOneBefore();
        holdAndWhatIsCarriedOut();
        afterExpandsOnce();
        afterWithoutTwo();
        afterDoesNotLookAtTheNext();
        afterPutsAside();
        afterPutsBackIntoRoom();
        namingExpands();
        namingOneToEight();
        namingOtherTokens();
        namingAndTheEnd();
        namesThatSignsMake();
        hundredNames();
        fiftyWithinEachOther();
        fiftyOneWithinEachOther();
        finish();
    }

    /** Names 0 'ab', 1 '<argument>', 2 nothing, 3 name 0 and 'c'. */
    private static MacroExpand withMacros() {
        MacroExpand x = fresh();
        macro(x, 0, 0, 0, rows(), "ab");
        macro(x, 1, 1, 0, rows(), "<", par(1), ">");
        macro(x, 2, 0, 0, rows());
        macro(x, 3, 0, 0, rows(), name(0), "c");
        return x;
    }

    /** "HOLD: it goes; the token behind (FAULT 1 without one)". */
    private static void holdAtTheEnd() {
        MacroExpand x = withMacros();
        faults("alone", x, 1, 0, 1, HOLD);
        faults("behind another", x, 1, 0, 1, "a", HOLD);
        output("what was before", x, "a");
        feed(x, HOLD);
        faulted("once", x, false, 1, 0, 1);
        gives("the last one as an argument, not so in the body", x, tokens(name(1), HOLD), "<>");
        gives("with one", x, tokens(HOLD, "a"), "a");
        same("a step", x.fault(2), 1);
    }

    /** "when it is looked at next as the first one .., is not expanded". */
    private static void holdWhatIsExpanded() {
        MacroExpand x = withMacros();
        gives("a name", x, tokens(HOLD, name(0), name(0)), name(0), "ab");
        gives("HOLD", x, tokens(HOLD, HOLD, name(0)), HOLD, "ab");
        gives("HOLD held, then held", x, tokens(HOLD, HOLD, HOLD, name(0)), HOLD, name(0));
        gives("AFTER", x, tokens(HOLD, AFTER, "x", name(0)), AFTER, "xab");
        gives("NAMING", x, tokens(HOLD, NAMING, "x", NAMED), NAMING, "x", NAMED);
        gives("any other", x, tokens(HOLD, "a", HOLD, "}", HOLD, NAMED), "a}", NAMED);
        gives("in a body", x, tokens(DEFINE_EXPANDED, name(9), "{", HOLD, name(0), name(0), "}", HOLD, name(9)), name(9));
        gives("what the body is", x, tokens(name(9)), "abab");
        faults("in NAMING", x, 4, 0, 2, NAMING, HOLD, name(0), NAMED);
        gives("NAMED in NAMING is like any", x, tokens(NAMING, "a", HOLD, NAMED), 1100);
    }

    /** "in the same expand()". */
    private static void holdInTheSameExpand() {
        MacroExpand x = withMacros();
        feed(x, HOLD, name(0));
        once("HOLD goes", x, name(0));
        whole("then it is expanded", x, "ab");
        feed(x, HOLD, HOLD, name(0));
        once("HOLD goes, HOLD stays", x, HOLD, name(0));
        once("that goes, too", x, name(0));
        once("then it is expanded once", x, "ab");
        whole("the rest", x, "ab");
    }

    /** "(if another one comes before it, it is like any". */
    private static void holdAndAnotherOneBefore() {
        MacroExpand x = withMacros();
        gives("AFTER brings one", x, tokens(AFTER, "x", HOLD, name(0)), "xab");
        gives("one that goes again", x, tokens(AFTER, name(2), HOLD, name(0)), "ab");
        gives("one that is expanded", x, tokens(AFTER, name(0), HOLD, name(0)), "abab");
        gives("one that takes it", x, tokens(AFTER, name(1), HOLD, name(0)), "<ab>");
        gives("within AFTER", x, tokens(AFTER, name(2), AFTER, name(2), HOLD, name(0)), "ab");
        gives("HOLD itself", x, tokens(AFTER, HOLD, HOLD, name(0)), name(0));
    }

    /** "what is CARRIED OUT is so behind HOLD, too)". */
    private static void holdAndWhatIsCarriedOut() {
        MacroExpand x = withMacros();
        gives("DEFINE", x, tokens(HOLD, DEFINE, name(4), "{d}", name(4)), "d");
        gives("DEFINE EXPANDED", x, tokens(HOLD, DEFINE_EXPANDED, name(4), "{", name(0), "}", name(4)), "ab");
        gives("LONG", x, tokens(HOLD, LONG, DEFINE, name(4), par(1), "{", par(1), "}", name(4), PARAGRAPH), PARAGRAPH);
        gives("OUTER", x, tokens(HOLD, OUTER, DEFINE, name(5), "{o}"));
        faults("OUTER it is", x, 2, name(4), 1, name(4), name(5));
        x.group(true);
        gives("GLOBAL", x, tokens(HOLD, GLOBAL, DEFINE, name(6), "{g}"));
        x.group(false);
        gives("GLOBAL it is", x, tokens(name(6)), "g");
        gives("LATER", x, tokens(HOLD, LATER, name(0), DEFINE, name(4), "{}"), "ab");
        faults("a mark at the end", x, 1, 0, 1, HOLD, LONG);
        faults("with marks HOLD is expanded, what is held is not", x, 6, 0, 1, LONG, HOLD, name(0));
    }

    /** "AFTER: it goes, and the token behind the next one is expanded once, if it can be". */
    private static void afterExpandsOnce() {
        MacroExpand x = withMacros();
        feed(x, AFTER, "x", name(3));
        once("once", x, "x", name(0), "c");
        whole("the rest", x, "xabc");
        feed(x, AFTER, "x", "y", name(0));
        once("a sign can't be", x, "xy", name(0));
        same("one step", x.fault(2), 1);
        whole("that rest", x, "xyab");
        feed(x, AFTER, "x", DEFINE, name(9), "{}");
        once("nothing is carried out", x, "x", DEFINE, name(9), "{}");
        same("nothing was defined", x.macro(9), -1);
        whole("it is then", x, "x");
        same("then it was", x.macro(9), 4);
        feed(x, AFTER, "x", AFTER, "y", name(3));
        once("AFTER is expanded once", x, "xy", name(0), "c");
        x.expand(true);
        feed(x, AFTER, "x", HOLD, name(3));
        once("HOLD is expanded once", x, "x", name(3));
        x.expand(true);
        x.define(100, 0, 0);
        feed(x, AFTER, "x", NAMING, "a", NAMED);
        once("NAMING is expanded once", x, "x", name(100));
        x.expand(true);
        feed(x, AFTER, "x", name(2), name(0));
        once("one that brings nothing", x, "x", name(0));
    }

    /** "(FAULT 1 without two". */
    private static void afterWithoutTwo() {
        MacroExpand x = withMacros();
        faults("none", x, 1, 0, 1, AFTER);
        faults("one", x, 1, 0, 1, AFTER, "a");
        faults("one name", x, 1, 0, 1, AFTER, name(0));
        gives("two", x, tokens(AFTER, "ab"), "ab");
        faults("one behind another AFTER", x, 1, 0, 2, AFTER, "a", AFTER, "b");
        faults("none behind another AFTER", x, 1, 0, 2, AFTER, "a", AFTER);
        gives("two behind another AFTER", x, tokens(AFTER, "a", AFTER, "bc"), "abc");
    }

    /** "the next one is not looked at". */
    private static void afterDoesNotLookAtTheNext() {
        MacroExpand x = withMacros();
        macro(x, 5, 0, 2, rows(), "o");
        int[] any = {CLOSE, OPEN, BLANK, PARAGRAPH, HOLD, AFTER, NAMING, NAMED, DEFINE, LONG, LATER, par(1), par(8, 9),
            name(0), name(5), name(9)};
        for (int t : any) {
            feed(x, AFTER, t, name(1), "z");
            once("next " + t, x, t, "<z>");
            same("steps", x.fault(2), 2);
            x.expand(true);
        }
    }

    /** "it is no token of the input meanwhile, and is put back in front then". */
    private static void afterPutsAside() {
        MacroExpand x = withMacros();
        macro(x, 5, 1, 0, rows("", ","), "<", par(1), ">");
        faults("no argument is left", x, 1, name(1), 2, AFTER, "x", name(1));
        faults("no row is left", x, 1, name(5), 2, AFTER, ",", name(5), "a");
        faults("HOLD has none", x, 1, 0, 2, AFTER, "x", HOLD);
        faults("NAMING has none", x, 1, 0, 2, AFTER, NAMED, NAMING, "a");
        feed(x, AFTER, "x", AFTER, "y", name(1), "z");
        once("in the order they had", x, "xy<z>");
        whole("all of it", x, "xy<z>");
        feed(x, AFTER, "x", name(2));
        once("in front of nothing", x, "x");
    }

    /** "FAULT 8, if there are 3000 without it)". */
    private static void afterPutsBackIntoRoom() {
        afterBefore(2999, 3000);
        afterBefore(3000, -8);
    }

    /** AFTER and a token before a name whose expansion makes the input so many tokens without that one. */
    private static void afterBefore(int without, int due) {
        MacroExpand x = fresh();
        macro(x, 0, 1, 0, rows(), AFTER, "t", name(1), OPEN, times(20, par(1)), CLOSE);
        macro(x, 1, 1, 0, rows(), times(7, par(1)));
        feed(x, name(0), OPEN, times(20, "x"), CLOSE, times(without - 2800, "z"));
        same("AFTER comes", x.expand(false), 404 + 1 + without - 2800);
        same("with " + without, x.expand(false), due);
        same("fault", x.fault(0), due < 0 ? 8 : 0);
        same("no name is expanded then", x.fault(1), 0);
        same("steps", x.fault(2), 2);
        same("the expansion was made", x.traced(0, 2), 2800);
        same("first", x.input(0), due < 0 ? -1 : 't');
        same("last", x.input(2999), due < 0 ? -1 : 'z');
    }

    /** "NAMING: it goes, then tokens behind it are expanded as long as they can be". */
    private static void namingExpands() {
        MacroExpand x = withMacros();
        macro(x, 4, 0, 0, rows(), "d", NAMED, "e");
        gives("names in names", x, tokens(NAMING, name(3), name(2), NAMED, NAMING, "abc", NAMED), 1100, 1100);
        gives("NAMED from a name", x, tokens(NAMING, "abc", name(4)), 1101, "e");
        gives("arguments", x, tokens(NAMING, name(1), name(0), NAMED), 1102);
        same("signs of it", x.named(2), 4);
        gives("NAMING in NAMING", x, tokens(DEFINE, name(100), "{ab}", NAMING, NAMING, "abc", NAMED, "c", NAMED), "ab");
        gives("AFTER in NAMING", x, tokens(NAMING, AFTER, "d", name(4)), 1103, "e");
        same("signs of that", x.named(3), 2);
    }

    /** "each that can't must be a sign, up to NAMED: 1 to 8, else FAULT 4 (also at the ninth". */
    private static void namingOneToEight() {
        MacroExpand x = withMacros();
        faults("none", x, 4, 0, 1, NAMING, NAMED);
        faults("none but one that brings nothing", x, 4, 0, 2, NAMING, name(2), NAMED);
        gives("one", x, tokens(NAMING, "a", NAMED), 1100);
        gives("eight", x, tokens(NAMING, "abcdefgh", NAMED), 1101);
        same("signs of one", x.named(0), 1);
        same("signs of eight", x.named(1), 8);
        faults("nine", x, 4, 0, 1, NAMING, "abcdefghi", NAMED);
        faults("nine at the end", x, 4, 0, 1, NAMING, "abcdefghi");
        faults("the ninth from a name", x, 4, 0, 2, NAMING, "abcdefg", name(0), NAMED);
        gives("eight with a name", x, tokens(NAMING, "abcdef", name(0), NAMED), 1102);
        gives("lowest, highest, PARAGRAPH", x, tokens(NAMING, 0, 255, PARAGRAPH, NAMED), 1103);
        same("no name by a fault", x.named(-1), 4);
    }

    /** "and at the first other token". */
    private static void namingOtherTokens() {
        MacroExpand x = withMacros();
        int[] others = {BLANK, OPEN, CLOSE, DEFINE, DEFINE_EXPANDED, LONG, OUTER, GLOBAL, LATER, par(1), par(8, 9),
            name(9), name(100), name(199)};
        for (int t : others) {
            faults("first, " + t, x, 4, 0, 1, NAMING, t, NAMED);
            faults("at the end, " + t, x, 4, 0, 1, NAMING, "a", t);
        }
        faults("before the ninth", x, 4, 0, 1, NAMING, "abcdefgh", BLANK, NAMED);
        faults("held HOLD", x, 4, 0, 2, NAMING, HOLD, HOLD, "a", NAMED);
        faults("held AFTER", x, 4, 0, 2, NAMING, HOLD, AFTER, "ab", NAMED);
        faults("held NAMING", x, 4, 0, 2, NAMING, HOLD, NAMING, "a", NAMED);
        same("no name by a fault", x.named(-1), 0);
    }

    /** "FAULT 1 if the input ends)". */
    private static void namingAndTheEnd() {
        MacroExpand x = withMacros();
        faults("at once", x, 1, 0, 1, NAMING);
        faults("behind one", x, 1, 0, 1, NAMING, "a");
        faults("behind eight", x, 1, 0, 1, NAMING, "abcdefgh");
        faults("behind a name that brings nothing", x, 1, 0, 2, NAMING, name(2));
        faults("in NAMING", x, 1, 0, 2, NAMING, NAMING, "a");
        faults("in an expansion", x, 1, name(1), 2, NAMING, "a", name(1));
    }

    /** "the name that these signs make: the one that they made before, else a new one, 1100 and on". */
    private static void namesThatSignsMake() {
        MacroExpand x = withMacros();
        gives("first", x, tokens(NAMING, "ab", NAMED), 1100);
        gives("others", x, tokens(NAMING, "a", NAMED, NAMING, "b", NAMED, NAMING, "ba", NAMED, NAMING, "abc", NAMED),
                1101, 1102, 1103, 1104);
        gives("before", x, tokens(NAMING, "abc", NAMED, NAMING, "ab", NAMED, NAMING, "a", NAMED), 1104, 1100, 1101);
        x.group(true);
        gives("in a group", x, tokens(NAMING, "x", NAMED), 1105);
        x.group(false);
        gives("behind the group", x, tokens(NAMING, "x", NAMED), 1105);
        faults("before a fault", x, 4, 0, 2, NAMING, "y", NAMED, NAMING, NAMED);
        gives("behind a fault", x, tokens(NAMING, "y", NAMED), 1106);
        feed(x, NAMING, "z", NAMED);
        once("once", x, 1107);
        x.define(107, 0, 0);
        x.body(x.macro(107), 'q');
        whole("it is like any name", x, "q");
        feed(x, NAMING, "z", NAMED);
        once("and not expanded with NAMING", x, 1107);
    }

    /** "FAULT 8 when there are 100". */
    private static void hundredNames() {
        MacroExpand x = fresh();
        macro(x, 0, 1, 1, rows(), NAMING, par(1), "a", NAMED, NAMING, par(1), "b", NAMED, NAMING, par(1), "c", NAMED,
                NAMING, par(1), "d", NAMED, NAMING, par(1), "e", NAMED);
        for (int i = 0; i < 20; i++) {
            feed(x, name(0), i);
        }
        same("expand", x.expand(true), 100);
        same("first", x.at(0), 1100);
        same("last", x.at(99), 1199);
        same("a hundred", x.named(-1), 100);
        gives("the hundredth again", x, tokens(NAMING, 19, "e", NAMED), 1199);
        faults("one more", x, 8, 0, 1, NAMING, "f", NAMED);
        faults("one more, but the input ends", x, 1, 0, 1, NAMING, "f");
        faults("one more, but without sign", x, 4, 0, 1, NAMING, NAMED);
        faults("one more, but of nine", x, 4, 0, 1, NAMING, "fffffffff", NAMED);
        same("still a hundred", x.named(-1), 100);
        gives("the first again", x, tokens(NAMING, 0, "a", NAMED), 1100);
    }

    /** "or with which more than 50 NAMING and AFTER are within each other": fifty may be. */
    private static void fiftyWithinEachOther() {
        MacroExpand x = withMacros();
        gives("AFTER", x, tokens(times(50, AFTER, "x"), name(0)), times(50, "x"), "ab");
        same("steps", x.fault(2), 51);
        MacroExpand y = fresh();
        macro(y, 100, 0, 0, rows(), "a");
        gives("NAMING", y, tokens(times(50, NAMING), "a", times(50, NAMED)), "a");
        same("steps of NAMING", y.fault(2), 100);
        macro(y, 101, 0, 0, rows(), "a");
        gives("both", y, tokens(times(25, NAMING, AFTER, "a"), "a", times(25, NAMED)), "a");
        same("one name more", y.named(-1), 2);
        MacroExpand z = withMacros();
        gives("behind each other", z, tokens(times(60, AFTER, "x", "y")), times(60, "xy"));
        gives("NAMING behind each other", fresh(), tokens(times(51, NAMING, "a", NAMED)), times(51, 1100));
    }

    /** "FAULT 8 .. with which more than 50 NAMING and AFTER are within each other". */
    private static void fiftyOneWithinEachOther() {
        MacroExpand x = withMacros();
        faults("AFTER", x, 8, 0, 51, times(51, AFTER, "x"), name(0));
        faults("AFTER at the second but one", x, 8, 0, 51, times(51, AFTER, "x"), "y");
        faults("AFTER without two is FAULT 1 before", x, 1, 0, 51, times(51, AFTER, "x"));
        MacroExpand y = fresh();
        faults("NAMING", y, 8, 0, 51, times(51, NAMING), "a");
        faults("fifty and AFTER", y, 8, 0, 51, times(50, NAMING), AFTER, "ab");
        faults("fifty AFTER and NAMING", y, 8, 0, 51, times(50, AFTER, "x"), NAMING, "a", NAMED);
        faults("NAMING in turn with AFTER", y, 8, 0, 51, times(25, NAMING, AFTER, "x"), NAMING, "a", NAMED);
    }
}
