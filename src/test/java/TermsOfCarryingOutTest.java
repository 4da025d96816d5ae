/** 'Terms', CARRIED OUT and GROUPS: each sentence that names a boundary, in its order. */
public final class TermsOfCarryingOutTest extends Check {
    public static void main(String[] args) {
        onlyByAWholeExpansion();
        marksAreForTheDefinitionThatFollows();
        eachMark();
        parametersInOrder();
        delimitersBeforeBetweenAndBehind();
        bodyUpToItsClose();
        anotherTokenThanAName();
        closeOrOtherParameterBeforeTheBody();
        parameterAbove();
        theInputEnds();
        expandedBodies();
        expandedBodyFaults();
        laterGoesAndTheNextToken();
        theLatestOfLater();
        laterInThisExpand();
        marksAndOtherTokens();
        marksAndTheEnd();
        allOthersGoToTheOutput();
        groupEnds();
        globalStays();
        finish();
    }

    /** "CARRIED OUT by a whole expansion" alone. */
    private static void onlyByAWholeExpansion() {
        for (int t : new int[] {DEFINE, DEFINE_EXPANDED, LONG, OUTER, GLOBAL, LATER}) {
            MacroExpand x = fresh();
            feed(x, t);
            once("one token, " + t, x, t);
            same("no step", x.fault(2), 0);
            feed(x, name(0), "{a}");
            once("a definition, " + t, x, t, name(0), "{a}");
            same("nothing is defined", x.macro(0), -1);
        }
    }

    /** "LONG, OUTER and GLOBAL go, and are marks for the definition that follows". */
    private static void marksAreForTheDefinitionThatFollows() {
        MacroExpand x = fresh();
        int[] takes = tokens(par(1), "{<", par(1), ">}");
        gives("LONG", x, tokens(LONG, DEFINE, name(0), takes, DEFINE, name(1), takes, name(0), PARAGRAPH), "<", PARAGRAPH, ">");
        faults("not for the one behind", x, 2, name(1), 1, name(1), PARAGRAPH);
        gives("twice is like once", x, tokens(LONG, LONG, DEFINE, name(1), takes, name(1), PARAGRAPH), "<", PARAGRAPH, ">");
        gives("for DEFINE EXPANDED, too", x, tokens(LONG, DEFINE_EXPANDED, name(2), takes, name(2), PARAGRAPH),
                "<", PARAGRAPH, ">");
        faults("a definition in the body has none", x, 2, name(3), 2, LONG, DEFINE, name(4), "{", DEFINE, name(3),
                par(1, 1), "{}}", name(4), name(3), PARAGRAPH);
        gives("marks in a body are its tokens", x, tokens(DEFINE, name(5), "{", LONG, DEFINE, name(3), par(1, 1), "{}}",
                name(5), name(3), PARAGRAPH));
    }

    /** Each of the marks alone and all together, each for what it is alone. */
    private static void eachMark() {
        for (int marks = 0; marks < 8; marks++) {
            MacroExpand x = fresh();
            macro(x, 9, 1, 1, rows(), "y");
            x.group(true);
            feed(x, times(marks & 1, LONG), times(marks >> 1 & 1, OUTER), times(marks >> 2, GLOBAL));
            gives("defined with " + marks, x, tokens(DEFINE, name(0), par(1), "{x}"));
            feed(x, name(0), PARAGRAPH);
            same("LONG with " + marks, x.expand(true), (marks & 1) != 0 ? 1 : -2);
            feed(x, name(9), name(0));
            same("OUTER with " + marks, x.expand(true), (marks & 2) != 0 ? -2 : 1);
            x.group(false);
            same("GLOBAL with " + marks, x.macro(0), (marks & 4) != 0 ? 1 : -1);
        }
    }

    /** "behind them come a name, parameters of level 0 from 1 on in order". */
    private static void parametersInOrder() {
        MacroExpand x = fresh();
        gives("none", x, tokens(DEFINE, name(0), "{x}", name(0)), "x");
        same("no argument", x.delimiter(x.macro(0), 1, 'a'), -2);
        gives("one", x, tokens(DEFINE, name(0), par(1), "{", par(1), "x}", name(0), "a"), "ax");
        same("one argument", x.delimiter(x.macro(0), 2, 'a'), -2);
        gives("nine", x, tokens(DEFINE, name(199), par(1), par(2), par(3), par(4), par(5), par(6), par(7), par(8), par(9),
                "{", par(9), par(1), "}", name(199), "123456789"), "91");
        same("nine arguments", x.delimiter(x.macro(199), 9, 'a'), 1);
    }

    /** "with other tokens before, between and behind as delimiters, up to an OPEN". */
    private static void delimitersBeforeBetweenAndBehind() {
        MacroExpand x = fresh();
        gives("all places", x, tokens(DEFINE, name(0), "a", par(1), "bc", par(2), "d{<", par(1), "|", par(2), ">}", name(0),
                "a1bc2d3"), "<1|2>3");
        gives("none", x, tokens(DEFINE, name(0), par(1), par(2), "{<", par(1), "|", par(2), ">}", name(0), "123"), "<1|2>3");
        gives("before alone", x, tokens(DEFINE, name(0), "a{x}", name(0), "ab"), "xb");
        gives("in ten rows", x, tokens(DEFINE, name(3), "0", par(1), "1", par(2), "2", par(3), "3", par(4), "4", par(5), "5",
                par(6), "6", par(7), "7", par(8), "8", par(9), "9", "{", par(9), par(8), par(1), "}", name(3),
                "0a1b2c3d4e5f6g7h8i9j"), "ihaj");
        int[] any = {0, 255, PARAGRAPH, BLANK, HOLD, AFTER, NAMING, NAMED, DEFINE, DEFINE_EXPANDED, LONG, OUTER, GLOBAL,
            LATER, name(0), name(1), name(2)};
        gives("an outer macro", x, tokens(OUTER, DEFINE, name(2), "{o}"));
        for (int t : any) {
            gives("any token, " + t, x, tokens(DEFINE, name(1), par(1), t, "{", par(1), "}", name(1), "z", t), "z");
        }
    }

    /** "then the body up to its CLOSE". */
    private static void bodyUpToItsClose() {
        MacroExpand x = fresh();
        gives("empty", x, tokens(DEFINE, name(0), "{}", name(0), "a"), "a");
        gives("pairs in it", x, tokens(DEFINE, name(0), "{a{{}b}}", name(0), "}"), "a{{}b}}");
        gives("a pair alone", x, tokens(DEFINE, name(0), "{{}}", name(0)), "{}");
        gives("nothing in it is expanded", x, tokens(DEFINE, name(1), "{", name(0), HOLD, name(0), "}", DEFINE, name(0), "{c}",
                name(1)), "c", name(0));
        gives("behind it the input goes on", x, tokens(DEFINE, name(0), "{a}{b}"), "{b}");
    }

    /** "FAULT 6 if that is not so (another token than a name". */
    private static void anotherTokenThanAName() {
        int[] others = {0, 255, PARAGRAPH, BLANK, OPEN, CLOSE, HOLD, AFTER, NAMING, NAMED, DEFINE, DEFINE_EXPANDED, LONG,
            OUTER, GLOBAL, LATER, par(1), par(8, 9)};
        for (int define : new int[] {DEFINE, DEFINE_EXPANDED}) {
            MacroExpand x = fresh();
            for (int t : others) {
                faults("no name but " + t, x, 6, 0, 0, define, t);
            }
            gives("lowest and highest name", x, tokens(define, name(0), "{}", define, name(199), "{}"));
            same("name 0", x.macro(0), 0);
            same("name 199", x.macro(199), 1);
        }
    }

    /** "a CLOSE or any other parameter before the body". */
    private static void closeOrOtherParameterBeforeTheBody() {
        for (int define : new int[] {DEFINE, DEFINE_EXPANDED}) {
            MacroExpand x = fresh();
            faults("CLOSE at once", x, 6, name(0), 0, define, name(0), "}");
            faults("CLOSE behind a delimiter", x, 6, name(0), 0, define, name(0), "a}");
            faults("CLOSE behind a parameter", x, 6, name(0), 0, define, name(0), par(1), "}{}");
            faults("2 first", x, 6, name(0), 0, define, name(0), par(2));
            faults("1 again", x, 6, name(0), 0, define, name(0), par(1), par(1));
            faults("3 behind 1", x, 6, name(0), 0, define, name(0), par(1), "a", par(3));
            faults("level 1 first", x, 6, name(0), 0, define, name(0), par(1, 1));
            faults("level 1, 2 behind 1", x, 6, name(0), 0, define, name(0), par(1), par(1, 2));
            faults("level 8", x, 6, name(0), 0, define, name(0), par(8, 9));
            int[] nine = tokens(par(1), par(2), par(3), par(4), par(5), par(6), par(7), par(8), par(9));
            faults("one behind nine", x, 6, name(0), 0, define, name(0), nine, par(1, 1));
            faults("nine again", x, 6, name(0), 0, define, name(0), nine, par(9));
            same("nothing is defined", x.macro(0), -1);
            same("no number is used", x.define(1, 0, 0), 0);
        }
    }

    /** "a parameter of level 0 in it that is above)". */
    private static void parameterAbove() {
        for (int define : new int[] {DEFINE, DEFINE_EXPANDED}) {
            MacroExpand x = fresh();
            faults("1 of none", x, 6, name(0), 0, define, name(0), "{", par(1));
            faults("9 of none", x, 6, name(0), 0, define, name(0), "{a{", par(9), "}}");
            faults("2 of one", x, 6, name(0), 0, define, name(0), par(1), "{", par(1), par(2), "}");
            faults("9 of eight", x, 6, name(0), 0, define, name(0), par(1), par(2), par(3), par(4), par(5), par(6), par(7),
                    par(8), "{", par(9), "}");
            gives("1 of one", x, tokens(define, name(0), par(1), "{", par(1), "}", name(0), "a"), "a");
            gives("other levels", x, tokens(define, name(0), "{", par(1, 1), par(8, 9), "}", name(0)), par(1), par(7, 9));
        }
    }

    /** "FAULT 1 if the input ends." */
    private static void theInputEnds() {
        for (int define : new int[] {DEFINE, DEFINE_EXPANDED}) {
            MacroExpand x = fresh();
            faults("behind " + define, x, 1, 0, 0, "a", define);
            output("what was before", x, "a");
            faults("behind the name", x, 1, name(0), 0, define, name(0));
            faults("behind a delimiter", x, 1, name(0), 0, define, name(0), "a");
            faults("behind a parameter", x, 1, name(0), 0, define, name(0), par(1));
            faults("behind OPEN", x, 1, name(0), 0, define, name(0), "{");
            faults("in the body", x, 1, name(0), 0, define, name(0), "{a{}");
            faults("with marks", x, 1, name(0), 0, LONG, define, name(0), "{a");
            same("nothing is defined", x.macro(0), -1);
            gives("at its CLOSE it is there", x, tokens(define, name(0), "{a}"));
            same("defined", x.macro(0), 0);
        }
    }

    /** "EXPANDED: the body's tokens are expanded as long as they can be before they are taken." */
    private static void expandedBodies() {
        MacroExpand x = fresh();
        macro(x, 0, 0, 0, rows(), name(1), name(1));
        macro(x, 1, 0, 0, rows(), "b");
        macro(x, 2, 1, 0, rows(), "<", par(1), ">");
        macro(x, 3, 0, 0, rows(), "}");
        gives("defined", x, tokens(DEFINE_EXPANDED, name(5), par(1), "{", name(0), name(2), par(1), HOLD, name(1), "}"));
        same("steps", x.fault(2), 5);
        x.define(1, 0, 0);
        gives("what was expanded", x, tokens(name(5), "q"), "bb<q>");
        gives("the rows are not", x, tokens(DEFINE_EXPANDED, name(6), name(0), "{x}", name(6), name(0)), "x");
        gives("nor the name", x, tokens(DEFINE_EXPANDED, name(2), "{y}", name(2)), "y");
        gives("its CLOSE from a name", x, tokens(DEFINE_EXPANDED, name(6), "{a", name(3), "b"), "b");
        gives("a held CLOSE ends it", x, tokens(DEFINE_EXPANDED, name(6), "{a", HOLD, "}b", name(6)), "ba");
        gives("nothing is carried out", x, tokens(DEFINE_EXPANDED, name(6), "{", LATER, LONG, DEFINE, name(7), "{}}"));
        same("nothing was defined in it", x.macro(7), -1);
    }

    private static void expandedBodyFaults() {
        MacroExpand x = fresh();
        macro(x, 0, 1, 0, rows(), "a");
        macro(x, 1, 0, 0, rows(), par(1, 1));
        macro(x, 2, 1, 0, rows("", ","), "b");
        faults("CLOSE of the body is no argument", x, 7, name(0), 1, DEFINE_EXPANDED, name(5), "{", name(0), "}a");
        faults("nor may it be in one", x, 7, name(2), 1, DEFINE_EXPANDED, name(5), "{", name(2), "a},");
        faults("a parameter that comes is above", x, 6, name(5), 1, DEFINE_EXPANDED, name(5), "{", name(1), "}");
        gives("or is not", x, tokens(DEFINE_EXPANDED, name(5), par(1), "{", name(1), "}", name(5), "z"), "z");
        faults("NAMING", x, 4, name(6), 1, DEFINE_EXPANDED, name(6), "{", NAMING, "}");
        faults("HOLD at the end", x, 1, name(6), 1, DEFINE_EXPANDED, name(6), "{", HOLD);
        faults("AFTER at the end", x, 1, name(6), 1, DEFINE_EXPANDED, name(6), "{", AFTER, "}");
        same("nothing was defined", x.macro(6), -1);
    }

    /** "LATER: it goes, and so does the next token (FAULT 1 without one)". */
    private static void laterGoesAndTheNextToken() {
        MacroExpand x = fresh();
        faults("without one", x, 1, 0, 0, "a", LATER);
        output("what was before", x, "a");
        gives("with one", x, tokens("a", LATER, "b"), "a");
        gives("with two", x, tokens(LATER, "bc"), "c");
        int[] any = {CLOSE, OPEN, HOLD, AFTER, NAMING, DEFINE, LONG, LATER, name(0), par(1)};
        macro(x, 0, 2, 2, rows(), "m");
        for (int t : any) {
            gives("the next one is not looked at, " + t, x, tokens(LATER, t, "c"), "c");
        }
        same("no step", x.fault(2), 0);
    }

    /** "the latest one of these comes to the input's front, when the next definition .. was carried out". */
    private static void theLatestOfLater() {
        MacroExpand x = fresh();
        int[] definition = tokens(DEFINE, name(0), "{d}");
        gives("one", x, tokens(LATER, "a", "b", definition, "c"), "bac");
        gives("two", x, tokens(LATER, "a", LATER, "b", definition, "c"), "bc");
        gives("for one definition", x, tokens(LATER, "a", definition, "b", definition, "c"), "abc");
        gives("for each anew", x, tokens(LATER, "a", definition, LATER, "b", definition, "c"), "abc");
        gives("DEFINE EXPANDED, too", x, tokens(LATER, "a", DEFINE_EXPANDED, name(1), "{}", "c"), "ac");
        gives("with marks, too", x, tokens(LATER, "a", GLOBAL, definition, "c"), "ac");
        gives("it is expanded with the new macro", x, tokens(LATER, name(2), DEFINE, name(2), "{e}"), "e");
        gives("it takes arguments", x, tokens(LATER, name(2), DEFINE, name(2), par(1), "{<", par(1), ">}a"), "<a>");
        gives("it is carried out", x, tokens(LATER, DEFINE, definition, name(2), "{f}", name(2)), "f");
        faults("it is not there before", x, 1, 0, 0, LATER, "a", DEFINE);
        faults("LATER is carried out", x, 1, 0, 0, LATER, LATER, definition);
    }

    /** "in this expand()". */
    private static void laterInThisExpand() {
        MacroExpand x = fresh();
        gives("told", x, tokens(LATER, "a"));
        gives("not in the next", x, tokens(DEFINE, name(0), "{}b"), "b");
        feed(x, LATER, "a", DEFINE, name(0), "{}");
        same("nothing is done once", x.expand(false), 6);
        whole("in this one", x, "a");
    }

    /** "With marks, if another token than LONG, OUTER, GLOBAL, DEFINE, DEFINE EXPANDED is not expanded: FAULT 6". */
    private static void marksAndOtherTokens() {
        int[] others = {0, 255, PARAGRAPH, BLANK, OPEN, CLOSE, NAMED, LATER, par(1), par(8, 9), name(9), name(199)};
        for (int mark : new int[] {LONG, OUTER, GLOBAL}) {
            MacroExpand x = fresh();
            macro(x, 0, 0, 0, rows(), DEFINE, name(1));
            macro(x, 2, 0, 0, rows());
            for (int t : others) {
                faults("mark " + mark + " before " + t, x, 6, 0, 0, mark, t);
                faults("before more than " + t, x, 6, 0, 0, mark, t, DEFINE, name(1), "{}");
            }
            faults("held", x, 6, 0, 1, mark, HOLD, name(0), "{}");
            gives("expanded", x, tokens(mark, name(2), mark, name(0), "{}"));
            gives("AFTER and NAMING are expanded", x, tokens(mark, AFTER, DEFINE, NAMING, "a", NAMED, "{}"));
            same("defined", x.macro(100), 3);
        }
    }

    /** "if the input ends: FAULT 1". */
    private static void marksAndTheEnd() {
        MacroExpand x = fresh();
        macro(x, 2, 0, 0, rows());
        for (int mark : new int[] {LONG, OUTER, GLOBAL}) {
            faults("mark " + mark, x, 1, 0, 0, "a", mark);
            output("what was before", x, "a");
            faults("behind a name that brings nothing", x, 1, 0, 1, mark, name(2));
            faults("two marks", x, 1, 0, 0, mark, LONG);
        }
        faults("HOLD", x, 1, 0, 1, LONG, HOLD);
        gives("used up", x, tokens(LONG, DEFINE, name(0), "{}"));
    }

    /** "All others go to the OUTPUT." */
    private static void allOthersGoToTheOutput() {
        MacroExpand x = fresh();
        int[] others = tokens(0, 255, PARAGRAPH, BLANK, CLOSE, OPEN, NAMED, par(1), par(9), par(1, 1), par(8, 9), name(0),
                name(100), name(199));
        gives("as they are", x, others, others);
        same("no step", x.fault(2), 0);
    }

    /** "at a group's end all names have the macros again that they had at its beginning". */
    private static void groupEnds() {
        MacroExpand x = fresh();
        macro(x, 0, 0, 0, rows(), "a");
        macro(x, 199, 0, 0, rows(), "z");
        x.group(true);
        gives("the same within", x, tokens(name(0), name(199)), "az");
        gives("read", x, tokens(DEFINE, name(0), "{b}", LONG, OUTER, DEFINE, name(1), "{c}", name(0), name(1)), "bc");
        macro(x, 199, 0, 3, rows(), "y");
        x.group(true);
        gives("read deeper", x, tokens(DEFINE, name(0), "{d}", name(0), name(1), name(199)), "dcy");
        x.group(false);
        gives("behind the inner one", x, tokens(name(0), name(1), name(199)), "bcy");
        x.group(false);
        gives("behind the outer one", x, tokens(name(0), name(1), name(199)), "a", name(1), "z");
        same("the macros are there still", x.body(2, '!'), 2);
        same("their numbers, too", x.define(5, 0, 0), 6);
        x.group(true);
        x.body(0, '?');
        x.group(false);
        gives("bodies do not come back", x, tokens(name(0)), "a?");
    }

    /** "but for those defined GLOBAL within (these stay, as if they were so before all groups that are open)". */
    private static void globalStays() {
        MacroExpand x = fresh();
        x.define(0, 0, 0);
        for (int i = 0; i < 20; i++) {
            x.group(true);
            x.define(0, 0, 0);
        }
        same("local", x.macro(0), 20);
        same("told", x.define(0, 0, 4), 21);
        gives("read", x, tokens(GLOBAL, DEFINE, name(199), "{g}"));
        same("local behind it", x.define(0, 0, 3), 23);
        for (int i = 19; i >= 0; i--) {
            same("ends", x.group(false), i);
            same("told stays", x.macro(0), 21);
            same("read stays", x.macro(199), 22);
        }
        x.group(true);
        x.define(0, 0, 0);
        x.group(true);
        x.define(1, 0, 4);
        x.group(false);
        same("other names are not touched", x.macro(0), 24);
        x.group(false);
        same("nor behind", x.macro(0), 21);
        same("global from the inner group", x.macro(1), 25);
        x.group(true);
        x.define(1, 0, 0);
        x.group(false);
        same("groups that begin later", x.macro(1), 25);
    }
}
