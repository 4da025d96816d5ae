/** 'Terms', STEPS, FAULT 8, the order of faults, what a fault leaves, REFUSALS: each boundary, in the document's order. */
public final class TermsOfFaultsTest extends Check {
    public static void main(String[] args) {
        eachExpansionIsAStep();
        stepsBeforeAnyOtherFault();
        roomOfInput();
        roomOfOutput();
        roomOfArguments();
        roomOfDelimitedArguments();
        roomOfBodies();
        roomOfRows();
        roomOfMacros();
        tokensInTurn();
        outerBeforeRowZero();
        outerAndCloseBeforeRoom();
        definitionBeforeRoom();
        marksBeforeRoom();
        roomWhenAllIsThere();
        theInputIsEmptyWithAFault();
        marksAndLaterAreNoMore();
        whatWasPutOutAndDefinedStays();
        refusalsInOrder();
        refusalsChangeNothing();
        finish();
    }

    /** "each expansion of a name, HOLD, AFTER or NAMING is one; FAULT 5 when there would be more than are granted". */
    private static void eachExpansionIsAStep() {
        stepsOf("a name", 1, name(0));
        stepsOf("a name that brings one", 2, name(1));
        stepsOf("HOLD", 1, HOLD, name(0));
        stepsOf("AFTER", 1, AFTER, "a", "b");
        stepsOf("AFTER and a name", 2, AFTER, "a", name(0));
        stepsOf("NAMING", 1, NAMING, "a", NAMED);
        stepsOf("NAMING and a name", 2, NAMING, "a", name(0), NAMED);
        stepsOf("a body that is expanded", 3, DEFINE_EXPANDED, name(5), "{", name(1), HOLD, name(0), "}");
        stepsOf("a body that is not", 0, DEFINE, name(5), "{", name(1), HOLD, name(0), "}");
        stepsOf("what is carried out or put out", 0, "a", LATER, "b", LONG, OUTER, GLOBAL, DEFINE, name(5), "{}", NAMED);
    }

    private static void stepsOf(String what, int steps, Object... fed) {
        for (int granted = 1; granted <= 4; granted++) {
            MacroExpand x = new MacroExpand(granted);
            macro(x, 0, 0, 0, rows());
            macro(x, 1, 0, 0, rows(), name(0));
            feed(x, fed);
            int answer = x.expand(true);
            same(what + " with " + granted, answer == -5 ? 5 : answer < 0 ? answer : 0, steps > granted ? 5 : 0);
            same(what + ": fault(0)", x.fault(0), steps > granted ? 5 : 0);
            same(what + ": fault(2)", x.fault(2), Math.min(steps, granted));
        }
    }

    /** "(before any other one of that token)". */
    private static void stepsBeforeAnyOtherFault() {
        Object[][] faulty = {{name(1)}, {name(1), "?"}, {name(1), name(2)}, {name(3), "}"}, {name(3), PARAGRAPH}, {HOLD},
            {AFTER}, {AFTER, "a"}, {NAMING}, {NAMING, NAMED}};
        int[] due = {1, 3, 2, 7, 2, 1, 1, 1, 1, 4};
        for (int i = 0; i < faulty.length; i++) {
            for (int granted = 1; granted <= 2; granted++) {
                MacroExpand x = new MacroExpand(granted);
                macro(x, 0, 0, 0, rows());
                macro(x, 1, 0, 0, rows("!"));
                macro(x, 2, 0, 2, rows());
                macro(x, 3, 1, 0, rows());
                feed(x, name(0), tokens(faulty[i]));
                same("token " + i + " with " + granted, x.expand(true), granted == 1 ? -5 : -due[i]);
                same("its steps", x.fault(2), granted);
                boolean isName = granted == 2 && faulty[i][0] instanceof Integer t && t >= 1000;
                same("its name", x.fault(1), isName ? (Integer) faulty[i][0] : 0);
            }
        }
        MacroExpand y = new MacroExpand(50);
        faults("the 51st NAMING", y, 5, 0, 50, times(51, NAMING));
        faults("the 51st AFTER", y, 5, 0, 50, times(51, AFTER, "x"), "y");
    }

    /** Names 0, 1 and 2: name 0 and twenty tokens in a pair become 2993 tokens in three steps. */
    private static MacroExpand growing() {
        return InputTest.growing();
    }

    /** "FAULT 8 also: an input .. of more than 3000 tokens". */
    private static void roomOfInput() {
        MacroExpand x = growing();
        feed(x, name(0), OPEN, times(20, "x"), CLOSE, "1234567");
        x.expand(false);
        x.expand(false);
        same("3000", x.expand(false), 3000);
        same("the last one", x.input(2999), '7');
        same("all of it", x.expand(true), 3000);
        feed(x, name(0), OPEN, times(20, "x"), CLOSE, "12345678");
        x.expand(false);
        x.expand(false);
        faulted("3001", x, false, 8, name(2), 1);
        same("it was not made", x.traced(0, 0), -1);
    }

    /** "or output". */
    private static void roomOfOutput() {
        for (int more = 0; more < 2; more++) {
            MacroExpand x = thousands();
            feed(x, times(2, name(0), "{", name(0), "{", name(0), "{a}}}"), times(9, name(0), "{", name(0), "{a}}"),
                    times(10, name(0), "a"), times(more, "b"), DEFINE, name(1), "{}");
            same("the answer, " + more, x.expand(true), more == 0 ? 3000 : -8);
            same("no name", x.fault(1), 0);
            same("the last one", x.at(2999), 'a');
            same("behind it", x.at(3000), -1);
            same("what comes behind a fault is not carried out", x.macro(1), more == 0 ? 1 : -1);
            gives("the output is empty before the next", x, tokens("c"), "c");
        }
    }

    /** Name 0, which brings its argument ten times. */
    private static MacroExpand thousands() {
        MacroExpand x = fresh();
        macro(x, 0, 1, 1, rows(), times(10, par(1)));
        return x;
    }

    /** Name 0 brings name 1 and behind it its own argument twenty times, between what is told. */
    private static MacroExpand twenty(int[] before, Object behind, Object... rowsOfName1) {
        MacroExpand x = fresh();
        macro(x, 0, 1, 1, rows(), name(1), before, times(20, par(1)), behind);
        macro(x, 1, 1, 0, rowsOfName1, "x");
        return x;
    }

    /** "an argument of more than 400". */
    private static void roomOfArguments() {
        int[] twentyTokens = tokens(name(0), OPEN, times(20, "a"), CLOSE);
        gives("400 in a pair", twenty(tokens("{"), "}"), twentyTokens, "x");
        faults("401 in a pair", twenty(tokens("{"), "b}"), 8, name(1), 2, twentyTokens);
        faults("401 in a pair that has no end", twenty(tokens("{b"), ""), 8, name(1), 2, twentyTokens);
        faults("400 in a pair that has no end", twenty(tokens("{"), ""), 1, name(1), 2, twentyTokens);
        MacroExpand x = twenty(tokens("_{"), "}");
        gives("BLANKS before do not count", x, tokens(twentyTokens), "x");
        same("traced", x.traced(1, 1), 400);
        MacroExpand y = twenty(tokens("{{"), "}");
        faults("pairs in it count", y, 8, name(1), 2, tokens(name(0), OPEN, times(20, "a"), CLOSE, "}"));
        MacroExpand z = fresh();
        macro(z, 0, 1, 1, rows(), name(1), "{", times(20, par(1)), "}{", times(20, par(1)), "}");
        macro(z, 1, 2, 0, rows(), "x");
        gives("each may have 400", z, tokens(twentyTokens), "x");
        same("both traced", z.traced(1, 1), 800);
    }

    /** "(with OPEN and CLOSE that are left out then, where it is delimited)". */
    private static void roomOfDelimitedArguments() {
        int[] twentyTokens = tokens(name(0), OPEN, times(20, "a"), CLOSE);
        int[] nineteen = tokens(name(0), OPEN, times(19, "a"), CLOSE);
        Object[] comma = rows("", ",");
        gives("400", twenty(tokens(""), ",", comma), twentyTokens, "x");
        faults("401", twenty(tokens("b"), ",", comma), 8, name(1), 2, twentyTokens);
        faults("400 without end", twenty(tokens(""), "", comma), 1, name(1), 2, twentyTokens);
        faults("401 without end", twenty(tokens(""), "b", comma), 8, name(1), 2, twentyTokens);
        MacroExpand x = twenty(tokens("{bbbbbbbbb"), "ccccccccc},", comma);
        gives("398 in a pair", x, nineteen, "x");
        same("traced without the pair", x.traced(1, 1), 398);
        faults("399 in a pair", twenty(tokens("{bbbbbbbbbb"), "ccccccccc},", comma), 8, name(1), 2, nineteen);
        faults("400 in a pair", twenty(tokens("{"), "},", comma), 8, name(1), 2, twentyTokens);
    }

    /** "a body .. of more than 200". */
    private static void roomOfBodies() {
        MacroExpand x = fresh();
        gives("200", x, tokens(DEFINE, name(0), "{", times(200, "a"), "}"));
        same("none more", x.body(0, 'a'), -4);
        MacroExpand y = fresh();
        faults("201", y, 8, name(0), 0, DEFINE, name(0), "{", times(201, "a"), "}");
        same("not defined", y.macro(0), -1);
        MacroExpand z = fresh();
        macro(z, 0, 0, 0, rows(), times(100, "a"));
        gives("200 expanded", z, tokens(DEFINE_EXPANDED, name(1), "{", name(0), name(0), "}"));
        same("none more of these", z.body(1, 'a'), -4);
        faults("201 expanded", z, 8, name(1), 2, DEFINE_EXPANDED, name(1), "{", name(0), name(0), "{", "}}");
        gives("pairs in it count, its own does not", z, tokens(DEFINE_EXPANDED, name(1), "{{", times(99, "b"), "}", times(99, "c"),
                "}"));
        same("200 with a pair in them", z.body(2, 'a'), -4);
    }

    /** "or a delimiter row of more than 200". */
    private static void roomOfRows() {
        for (int define : new int[] {DEFINE, DEFINE_EXPANDED}) {
            MacroExpand x = fresh();
            gives("200 in row 0", x, tokens(define, name(0), times(200, "a"), "{}"));
            same("none more", x.delimiter(0, 0, 'a'), -4);
            faults("201 in row 0", fresh(), 8, name(0), 0, define, name(0), times(201, "a"));
            MacroExpand y = fresh();
            gives("200 in two rows", y, tokens(define, name(0), times(200, "a"), par(1), times(200, "b"), "{}"));
            same("none more in row 1", y.delimiter(0, 1, 'a'), -4);
            faults("201 in row 1", fresh(), 8, name(0), 0, define, name(0), par(1), times(201, "a"));
            faults("201 in row 9", fresh(), 8, name(0), 0, define, name(0), par(1), par(2), par(3), par(4), par(5), par(6),
                    par(7), par(8), par(9), times(201, "a"));
        }
    }

    /** "more than 100 macros". */
    private static void roomOfMacros() {
        MacroExpand x = fresh();
        for (int i = 0; i < 99; i++) {
            x.define(i, 0, 0);
        }
        gives("the 100th", x, tokens(DEFINE, name(199), "{a}", name(199)), "a");
        same("its number", x.macro(199), 99);
        faults("the 101st", x, 8, name(0), 0, DEFINE, name(0), "{a}");
        faults("the 101st, expanded", x, 8, name(0), 0, DEFINE_EXPANDED, name(0), "{a}");
        same("the name has the one it had", x.macro(0), 0);
        same("told", x.define(0, 0, 0), -4);
    }

    /** "Tokens are looked at in turn". */
    private static void tokensInTurn() {
        MacroExpand x = fresh();
        macro(x, 0, 2, 0, rows("ab"), "x");
        macro(x, 1, 0, 2, rows(), "o");
        macro(x, 2, 1, 0, rows("", ","), "x");
        faults("3, then 2", x, 3, name(0), 1, name(0), "b", name(1));
        faults("2, then 3", x, 2, name(0), 1, name(0), name(1), "b");
        faults("3, then the end", x, 3, name(0), 1, name(0), "b");
        faults("7, then 2", x, 7, name(0), 1, name(0), "ab}", name(1));
        faults("2, then 7", x, 2, name(0), 1, name(0), "ab", PARAGRAPH, "}");
        faults("2, then 7, delimited", x, 2, name(2), 1, name(2), PARAGRAPH, "},");
        faults("7, then 2, delimited", x, 7, name(2), 1, name(2), "}", PARAGRAPH, ",");
        faults("2 in a pair that has no end", x, 2, name(2), 1, name(2), "{{", name(1));
        faults("4, then the end", x, 4, 0, 1, NAMING, BLANK);
        faults("6, then the end", x, 6, name(5), 0, DEFINE, name(5), "{", par(1));
    }

    /** "a token's own faults, in the order 1, 2, 3": an outer name that is not what row 0 has. */
    private static void outerBeforeRowZero() {
        MacroExpand x = fresh();
        macro(x, 0, 1, 0, rows("a"), "x");
        macro(x, 1, 0, 2, rows(), "o");
        faults("outer name", x, 2, name(0), 1, name(0), name(1));
        faults("name that is not outer", x, 3, name(0), 1, name(0), name(0));
        faults("PARAGRAPH", x, 3, name(0), 1, name(0), PARAGRAPH);
        faults("CLOSE", x, 3, name(0), 1, name(0), "}");
    }

    /** "2, .. 7, .. 8": the 401st token of an argument. */
    private static void outerAndCloseBeforeRoom() {
        int[] twentyTokens = tokens(name(0), OPEN, times(20, "a"), CLOSE);
        Object[] comma = rows("", ",");
        faults("PARAGRAPH in a pair", twenty(tokens("{"), PARAGRAPH), 2, name(1), 2, twentyTokens);
        faults("PARAGRAPH", twenty(tokens(""), PARAGRAPH, comma), 2, name(1), 2, twentyTokens);
        faults("CLOSE of none", twenty(tokens(""), "}", comma), 7, name(1), 2, twentyTokens);
        faults("OPEN", twenty(tokens(""), "{", comma), 8, name(1), 2, twentyTokens);
        MacroExpand x = twenty(tokens("{"), name(2));
        x.define(2, 0, 2);
        faults("outer name in a pair", x, 2, name(1), 2, twentyTokens);
        MacroExpand y = twenty(tokens(""), name(2), comma);
        y.define(2, 0, 2);
        faults("outer name", y, 2, name(1), 2, twentyTokens);
        MacroExpand z = twenty(tokens(""), name(2), comma);
        faults("name that is not outer", z, 8, name(1), 2, twentyTokens);
    }

    /** "6, 8": the 201st token of a body or of a row, and the 101st macro. */
    private static void definitionBeforeRoom() {
        faults("parameter above", fresh(), 6, name(0), 0, DEFINE, name(0), "{", times(200, "a"), par(1));
        faults("parameter not above", fresh(), 8, name(0), 0, DEFINE, name(0), par(1), "{", times(200, "a"), par(1));
        faults("level 1", fresh(), 8, name(0), 0, DEFINE, name(0), "{", times(200, "a"), par(1, 1));
        faults("CLOSE in a row", fresh(), 6, name(0), 0, DEFINE, name(0), times(200, "a"), "}");
        faults("parameter in a row", fresh(), 6, name(0), 0, DEFINE, name(0), times(200, "a"), par(2));
        faults("the end behind 200", fresh(), 1, name(0), 0, DEFINE, name(0), times(200, "a"));
        gives("OPEN behind 200", fresh(), tokens(DEFINE, name(0), times(200, "a"), "{}"));
        gives("CLOSE behind 200", fresh(), tokens(DEFINE, name(0), "{", times(200, "a"), "}"));
        gives("1 behind 200", fresh(), tokens(DEFINE, name(0), times(200, "a"), par(1), "{}"));
    }

    /** "6, 8" of a token behind marks, and the order of a mark's end. */
    private static void marksBeforeRoom() {
        int[] full = tokens(times(2, name(0), "{", name(0), "{", name(0), "{a}}}"), times(9, name(0), "{", name(0), "{a}}"),
                times(10, name(0), "a"));
        MacroExpand x = thousands();
        faults("with marks", x, 6, 0, 2 * 111 + 9 * 11 + 10, full, LONG, "b");
        same("the output is full", x.at(2999), 'a');
        MacroExpand y = thousands();
        faults("without", y, 8, 0, 2 * 111 + 9 * 11 + 10, full, "b");
        MacroExpand z = thousands();
        feed(z, full, LONG, DEFINE, name(1), "{}");
        same("what is carried out needs no room", z.expand(true), 3000);
    }

    /** "room for what comes when all is there". */
    private static void roomWhenAllIsThere() {
        MacroExpand x = fresh();
        macro(x, 0, 1, 0, rows(), name(1), "{", times(20, par(1)), "}");
        macro(x, 1, 2, 0, rows(), times(8, par(1)));
        int[] tooMany = tokens(name(0), OPEN, times(20, "x"), CLOSE);
        faults("3200 come, but an argument is not there", x, 1, name(1), 2, tooMany);
        faults("3200 come, but the argument is none", x, 7, name(1), 2, tooMany, "}");
        faults("3200 come", x, 8, name(1), 2, tooMany, "a");
        MacroExpand z = fresh();
        for (int i = 0; i < 100; i++) {
            z.define(i, 0, 0);
        }
        faults("the 101st macro that does not end", z, 1, name(0), 0, DEFINE, name(0), "{a");
        faults("the 101st macro that is wrong", z, 6, name(0), 0, DEFINE, name(0), "{", par(1), "}");
        faults("the 101st macro that is no name", z, 6, 0, 0, DEFINE, "a");
    }

    /** "With a fault the input is empty". */
    private static void theInputIsEmptyWithAFault() {
        MacroExpand x = fresh();
        macro(x, 0, 0, 0, rows("!"), "x");
        for (int whole = 0; whole < 2; whole++) {
            feed(x, name(0), "?abc");
            faulted("what is behind goes", x, whole == 1, 3, name(0), 1);
            feed(x, AFTER, "x", AFTER, "y", name(0), "?abc");
            faulted("what is aside goes", x, whole == 1, 3, name(0), 3);
            same("a new one is the first", x.token('a'), 1);
            once("it is there alone", x, "a");
            whole("it is put out", x, "a");
        }
        feed(x, NAMING, "ab", name(0), "?");
        faulted("what NAMING has goes", x, 3, name(0), 2);
        gives("a new NAMING begins anew", x, tokens(NAMING, "abcdefgh", NAMED), 1100);
        same("its signs", x.named(0), 8);
    }

    /** "and marks and LATER are no more". */
    private static void marksAndLaterAreNoMore() {
        MacroExpand x = fresh();
        int[] definition = tokens(DEFINE, name(0), par(1), "{<", par(1), ">}");
        faults("marks", x, 6, 0, 0, LONG, "a");
        gives("a sign behind them", x, tokens("a"), "a");
        faults("marks again", x, 1, name(0), 0, LONG, DEFINE, name(0));
        faults("the next macro is not LONG", x, 2, name(0), 1, definition, name(0), PARAGRAPH);
        faults("LATER", x, 6, 0, 0, LATER, "a", DEFINE, "b");
        gives("it does not come", x, tokens(definition, "b"), "b");
        faults("LATER in a definition", x, 1, name(0), 0, LATER, "a", DEFINE, name(0), "{");
        gives("nor does the definition go on", x, tokens("}"), "}");
        faults("HOLD", x, 1, 0, 1, HOLD);
        gives("holds nothing", x, tokens(name(0), "a"), "<a>");
    }

    /** "what was put out and defined stays". */
    private static void whatWasPutOutAndDefinedStays() {
        MacroExpand x = fresh();
        faults("fault", x, 1, 0, 1, "ab", DEFINE, name(0), "{c}", GLOBAL, DEFINE, name(1), "{d}", NAMING, "ab");
        output("put out", x, "ab");
        same("defined", x.macro(0), 0);
        same("defined, too", x.macro(1), 1);
        gives("they are there", x, tokens(name(0), name(1)), "cd");
        feed(x, HOLD);
        faulted("once", x, false, 1, 0, 1);
        output("put out by the whole one before", x, "cd");
        faults("nothing is put out", x, 1, 0, 1, HOLD);
        output("nothing", x);
    }

    /** "REFUSALS .. answer, the first that fits: -1 .., -2 .., -3 .., -4 no room." */
    private static void refusalsInOrder() {
        MacroExpand x = fresh();
        same("-1 before -2, body", x.body(0, 259), -1);
        same("-1 before -2, delimiter", x.delimiter(0, -1, 257), -1);
        macro(x, 0, 1, 0, rows("", times(200, "a")), times(200, "a"));
        same("-2 before -4, body", x.body(0, 259), -2);
        same("-4, body", x.body(0, 'a'), -4);
        same("-1 before -4, body", x.body(1, 'a'), -1);
        same("-2 before -4, delimiter", x.delimiter(0, 1, CLOSE), -2);
        same("-4, delimiter", x.delimiter(0, 1, 'a'), -4);
        same("-1 before -4, delimiter", x.delimiter(1, 1, 'a'), -1);
        MacroExpand y = fresh();
        for (int i = 0; i < 100; i++) {
            y.define(i, 0, 0);
        }
        same("-2 before -4, define", y.define(200, 0, 0), -2);
        same("-2 before -4, arguments", y.define(0, 10, 0), -2);
        same("-2 before -4, marks", y.define(0, 0, 8), -2);
        same("-4, define", y.define(0, 0, 0), -4);
    }

    /** "REFUSALS change nothing". */
    private static void refusalsChangeNothing() {
        MacroExpand x = fresh();
        macro(x, 0, 1, 0, rows("(", ")"), "<", par(1), ">");
        feed(x, name(0), "(a)b");
        x.group(true);
        same("define", x.define(0, 10, 0), -2);
        same("define with marks", x.define(0, 0, 8), -2);
        same("body", x.body(0, 259), -2);
        same("body of none", x.body(1, 'a'), -1);
        same("delimiter", x.delimiter(0, 1, OPEN), -2);
        same("delimiter of none", x.delimiter(0, 2, 'a'), -2);
        same("token", x.token(1200), -2);
        same("fault", x.fault(3), -2);
        input("the input", x, name(0), "(a)b");
        whole("the macro", x, "<a>b");
        same("its number", x.macro(0), 0);
        same("group", x.group(false), 0);
        same("no group", x.group(false), -3);
        same("still none", x.group(true), 1);
        same("next number", x.define(1, 0, 0), 1);
        output("the output", x, "<a>b");
        for (int i = 2; i <= 20; i++) {
            x.group(true);
        }
        same("the 21st", x.group(true), -4);
        same("twenty are open", x.group(false), 19);
    }
}
