/** 'Terms', from TOKENS to what the expansion of a name brings: each sentence that names a boundary, in its order. */
public final class TermsOfExpansionTest extends Check {
    public static void main(String[] args) {
        whatTokensThereAre();
        upToNineArguments();
        theLatestMacroOrNone();
        rowZeroMustComeNext();
        longestRowZero();
        emptyRowTakesTheNextToken();
        emptyRowTakesAPair();
        emptyRowAndClose();
        rowComesAtTheFirstPlace();
        rowWithinNoPair();
        closeOfNone();
        pairRoundAllIsLeftOut();
        outerNames();
        outerWhereRowZeroShouldCome();
        paragraphs();
        theInputEnds();
        allOfARowIsNotLookedAt();
        parametersOfTheBody();
        finish();
    }

    private static boolean[] tokensByTheDocument() {
        boolean[] is = new boolean[2000];
        for (int sign = 0; sign <= 255; sign++) {
            is[sign] = true;
        }
        for (int t : new int[] {256, 257, 258, 260, 261, 262, 263, 264, 265, 266, 267, 268, 269}) {
            is[t] = true;
        }
        for (int level = 0; level <= 8; level++) {
            for (int k = 1; k <= 9; k++) {
                is[310 + 10 * level + k] = true;
            }
        }
        for (int n = 0; n <= 199; n++) {
            is[1000 + n] = true;
        }
        return is;
    }

    /** "TOKENS are numbers: 0 .. 255 SIGNS .. Others are none." */
    private static void whatTokensThereAre() {
        boolean[] is = tokensByTheDocument();
        for (int t = -400; t < 2000; t++) {
            oneNumber(t, t >= 0 && is[t]);
        }
        for (int t : new int[] {Integer.MIN_VALUE, -65536, -32768, 65536 + 97, 1 << 20, Integer.MAX_VALUE}) {
            oneNumber(t, false);
        }
    }

    private static void oneNumber(int t, boolean isToken) {
        MacroExpand x = fresh();
        x.define(0, 1, 0);
        boolean isParameter = isToken && t > 300 && t < 400;
        same("token(" + t + ")", x.token(t), isToken ? 1 : -2);
        same("input(0) with " + t, x.input(0), isToken ? t : -1);
        same("body(0, " + t + ")", x.body(0, t), isToken ? 1 : -2);
        int due = isToken && t != OPEN && t != CLOSE && !isParameter ? 1 : -2;
        same("delimiter(0, 0, " + t + ")", x.delimiter(0, 0, t), due);
        same("delimiter(0, 1, " + t + ")", x.delimiter(0, 1, t), due);
    }

    /** "A MACRO belongs to a name: up to 9 ARGUMENTS, delimiters before the first one (row 0) and behind each". */
    private static void upToNineArguments() {
        MacroExpand x = fresh();
        macro(x, 0, 9, 0, rows("0", "1", "2", "3", "4", "5", "6", "7", "8", "9"),
                par(9), par(8), par(7), par(6), par(5), par(4), par(3), par(2), par(1));
        gives("ten rows", x, tokens(name(0), "0a1b2c3d4e5f6g7h8i9j"), "ihgfedcbaj");
        same("their tokens", x.traced(0, 1), 9);
        faults("the last row, too", x, 1, name(0), 1, name(0), "0a1b2c3d4e5f6g7h8i");
        faults("the first row, too", x, 3, name(0), 1, name(0), "a1b2c3d4e5f6g7h8i9");
    }

    /** "A name has the macro that was defined for it latest, or none." */
    private static void theLatestMacroOrNone() {
        MacroExpand x = fresh();
        gives("none", x, tokens(name(0)), name(0));
        macro(x, 0, 0, 0, rows(), "a");
        gives("told", x, tokens(name(0)), "a");
        macro(x, 0, 0, 0, rows(), "b");
        gives("told again", x, tokens(name(0)), "b");
        gives("read", x, tokens(DEFINE, name(0), "{c}", name(0)), "c");
        macro(x, 0, 0, 0, rows());
        gives("told empty", x, tokens(name(0)));
        same("its number", x.macro(0), 3);
    }

    /** "the tokens of delimiter row 0 must come next, else FAULT 3". */
    private static void rowZeroMustComeNext() {
        MacroExpand x = fresh();
        macro(x, 0, 0, 0, rows("ab"), "x");
        macro(x, 1, 1, 0, rows("_a"), "<", par(1), ">");
        macro(x, 2, 0, 0, rows(tokens(name(0), HOLD, PARAGRAPH)), "y");
        gives("it comes", x, tokens(name(0), "abc"), "xc");
        faults("first token", x, 3, name(0), 1, name(0), "bb");
        faults("last token", x, 3, name(0), 1, name(0), "aa");
        faults("a BLANK before", x, 3, name(0), 1, name(0), "_ab");
        faults("a pair round it", x, 3, name(0), 1, name(0), "{ab}");
        faults("a CLOSE", x, 3, name(0), 1, name(0), "a}");
        faults("a PARAGRAPH", x, 3, name(0), 1, name(0), "a", PARAGRAPH);
        faults("a name that would bring it", x, 3, name(0), 1, name(0), name(9), "b");
        gives("a BLANK in it", x, tokens(name(1), "_a_b"), "<b>");
        faults("a BLANK in it does not come", x, 3, name(1), 1, name(1), "ab");
        gives("its tokens are not expanded", x, tokens(name(2), name(0), HOLD, PARAGRAPH), "y");
    }

    private static void longestRowZero() {
        MacroExpand x = fresh();
        macro(x, 0, 0, 0, rows(times(200, "a")), "x");
        gives("200 tokens", x, tokens(name(0), times(200, "a"), "a"), "xa");
        MacroExpand y = fresh();
        macro(y, 0, 0, 0, rows(times(200, "a")), "x");
        faults("the 200th is another one", y, 3, name(0), 1, name(0), times(199, "a"), "b");
    }

    /** "if row k is empty, BLANKS are left out, then it is the next token". */
    private static void emptyRowTakesTheNextToken() {
        MacroExpand x = fresh();
        macro(x, 0, 1, 1, rows(), "<", par(1), ">");
        macro(x, 1, 1, 1, rows(), "-");
        macro(x, 2, 0, 0, rows(), "m");
        gives("no BLANK", x, tokens(name(0), "ab"), "<a>b");
        gives("one BLANK", x, tokens(name(0), "_ab"), "<a>b");
        gives("many BLANKS", x, tokens(name(0), times(30, "_"), "ab"), "<a>b");
        gives("BLANKS behind stay", x, tokens(name(0), "a__b"), "<a>__b");
        int[] any = {0, 255, PARAGRAPH, HOLD, AFTER, NAMING, NAMED, DEFINE, DEFINE_EXPANDED, LONG, OUTER, GLOBAL, LATER,
            par(1), par(8, 9), name(1), name(2), name(9)};
        for (int t : any) {
            gives("token " + t + " is taken as it is", x, tokens(name(1), t, "b"), "-b");
        }
    }

    /** "or, if this is OPEN, all up to its CLOSE (without both)". */
    private static void emptyRowTakesAPair() {
        MacroExpand x = fresh();
        macro(x, 0, 1, 1, rows(), "<", par(1), ">");
        gives("a pair", x, tokens(name(0), "{ab}c"), "<ab>c");
        gives("behind BLANKS", x, tokens(name(0), "__{ab}c"), "<ab>c");
        gives("an empty pair", x, tokens(name(0), "{}c"), "<>c");
        same("its tokens", x.traced(0, 1), 0);
        gives("a pair in it", x, tokens(name(0), "{a{}b}c"), "<a{}b>c");
        gives("only one pair is left out", x, tokens(name(0), "{{a}}c"), "<{a}>c");
        gives("BLANKS in it stay", x, tokens(name(0), "{_a_}c"), "<_a_>c");
        gives("up to its own CLOSE", x, tokens(name(0), "{{}{}}{}"), "<{}{}>{}");
    }

    /** "a CLOSE there is FAULT 7". */
    private static void emptyRowAndClose() {
        MacroExpand x = fresh();
        macro(x, 0, 2, 0, rows(), "x");
        faults("first argument", x, 7, name(0), 1, name(0), "}");
        faults("second argument", x, 7, name(0), 1, name(0), "a}");
        faults("behind BLANKS", x, 7, name(0), 1, name(0), "a__}b");
        faults("behind a pair", x, 7, name(0), 1, name(0), "{a}}b");
        gives("behind the arguments it is like any", x, tokens(name(0), "ab}"), "x}");
    }

    /** "If row k is not empty, it is all up to the first place .. at which row k comes". */
    private static void rowComesAtTheFirstPlace() {
        MacroExpand x = fresh();
        macro(x, 0, 1, 0, rows("", ","), "<", par(1), ">");
        macro(x, 1, 1, 0, rows("", "aab"), "<", par(1), ">");
        gives("at once", x, tokens(name(0), ",a,"), "<>a,");
        gives("later", x, tokens(name(0), "a,b,"), "<a>b,");
        gives("BLANKS are not left out", x, tokens(name(0), "_a_,"), "<_a_>");
        gives("many tokens at once", x, tokens(name(1), "aabc"), "<>c");
        gives("begun twice", x, tokens(name(1), "aaab"), "<a>");
        gives("begun in vain", x, tokens(name(1), "aacaab"), "<aac>");
        gives("the first of two", x, tokens(name(1), "aabaab"), "<>aab");
        longestRow(200, 'b');
        longestRow(199, 'c');
    }

    /** A row of 199 a and a b behind the argument: it comes, or all but its last token does. */
    private static void longestRow(int same, int last) {
        MacroExpand x = fresh();
        macro(x, 0, 1, 0, rows("", tokens(times(199, "a"), "b")), "<", par(1), ">");
        feed(x, name(0), times(199, "a"), last);
        if (same == 200) {
            whole("a row of 200", x, "<>");
        } else {
            faulted("199 of a row of 200", x, 1, name(0), 1);
        }
    }

    /** "within no OPEN and CLOSE of its own". */
    private static void rowWithinNoPair() {
        MacroExpand x = fresh();
        macro(x, 0, 1, 0, rows("", ","), "<", par(1), ">");
        macro(x, 1, 1, 0, rows("", "ab"), "<", par(1), ">");
        gives("hidden", x, tokens(name(0), "a{,}b,"), "<a{,}b>");
        gives("hidden deeper", x, tokens(name(0), "{{,},}{},"), "<{{,},}{}>");
        gives("behind a pair at once", x, tokens(name(0), "{a},"), "<a>");
        gives("not across OPEN", x, tokens(name(1), "a{b}ab"), "<a{b}>");
        gives("not across CLOSE", x, tokens(name(1), "{a}bab"), "<{a}b>");
        faults("only hidden", x, 1, name(0), 1, name(0), "{a,}");
    }

    /** "a CLOSE of none is FAULT 7". */
    private static void closeOfNone() {
        MacroExpand x = fresh();
        macro(x, 0, 2, 0, rows("", ",", ";"), "<", par(1), par(2), ">");
        faults("at once", x, 7, name(0), 1, name(0), "},;");
        faults("behind a token", x, 7, name(0), 1, name(0), "a},;");
        faults("behind a pair", x, 7, name(0), 1, name(0), "{{}}},;");
        faults("in the second argument", x, 7, name(0), 1, name(0), "a,}");
        gives("behind the arguments it is like any", x, tokens(name(0), "a,b;}"), "<ab>}");
    }

    /** "if that begins with OPEN and its CLOSE is the last, both are left out". */
    private static void pairRoundAllIsLeftOut() {
        MacroExpand x = fresh();
        macro(x, 0, 1, 0, rows("", ","), "<", par(1), ">");
        gives("one pair", x, tokens(name(0), "{ab},"), "<ab>");
        gives("an empty pair", x, tokens(name(0), "{},"), "<>");
        same("no token", x.traced(0, 1), 0);
        gives("only one", x, tokens(name(0), "{{a}},"), "<{a}>");
        gives("two pairs", x, tokens(name(0), "{a}{b},"), "<{a}{b}>");
        gives("two empty pairs", x, tokens(name(0), "{}{},"), "<{}{}>");
        gives("pairs in it", x, tokens(name(0), "{{a}{b}},"), "<{a}{b}>");
        gives("a token before", x, tokens(name(0), "_{a},"), "<_{a}>");
        gives("a token behind", x, tokens(name(0), "{a}_,"), "<{a}_>");
        gives("one token", x, tokens(name(0), "a,"), "<a>");
    }

    /** "In arguments ..: a name with an outer macro is FAULT 2". */
    private static void outerNames() {
        MacroExpand x = fresh();
        macro(x, 0, 1, 1, rows(), par(1));
        macro(x, 1, 1, 1, rows("", "!"), par(1));
        macro(x, 2, 0, 2, rows(), "o");
        macro(x, 199, 1, 2, rows(), "p");
        faults("next token", x, 2, name(0), 1, name(0), name(2));
        faults("behind BLANKS", x, 2, name(0), 1, name(0), "__", name(2));
        faults("in a pair", x, 2, name(0), 1, name(0), "{{", name(2));
        faults("before a row", x, 2, name(1), 1, name(1), name(2));
        faults("before a row, in a pair", x, 2, name(1), 1, name(1), "a{", name(2));
        faults("of the highest name, its own", x, 2, name(199), 1, name(199), name(199));
        gives("behind the argument", x, tokens(name(0), "a", name(2)), "ao");
        gives("a name without macro", x, tokens(name(0), name(3)), name(3));
        x.group(true);
        x.define(3, 0, 2);
        faults("in a group", x, 2, name(0), 1, name(0), name(3));
        x.define(2, 0, 5);
        gives("outer no more", x, tokens(name(0), name(2)));
        x.group(false);
        gives("behind the group", x, tokens(name(0), name(3)), name(3));
    }

    /** "and where row 0 should come: a name with an outer macro is FAULT 2". */
    private static void outerWhereRowZeroShouldCome() {
        MacroExpand x = fresh();
        macro(x, 0, 0, 1, rows("ab"), "x");
        macro(x, 1, 0, 2, rows(), "o");
        macro(x, 2, 0, 1, rows(tokens(name(1))), "x");
        macro(x, 3, 0, 1, rows(), "x");
        faults("first token", x, 2, name(0), 1, name(0), name(1));
        faults("last token", x, 2, name(0), 1, name(0), "a", name(1));
        faults("row 0 has it", x, 2, name(2), 1, name(2), name(1));
        gives("behind row 0", x, tokens(name(0), "ab", name(1)), "xo");
        gives("row 0 is empty", x, tokens(name(3), name(1)), "xo");
    }

    /** "in arguments a PARAGRAPH too, if the macro is not LONG". */
    private static void paragraphs() {
        MacroExpand x = fresh();
        for (int marks = 0; marks < 8; marks++) {
            macro(x, 0, 1, marks, rows(tokens(PARAGRAPH)), "<", par(1), ">");
            macro(x, 1, 1, marks, rows("", "!"), "<", par(1), ">");
            paragraphIn(x, marks, "next token", name(0), tokens(name(0), PARAGRAPH, PARAGRAPH, "a"));
            paragraphIn(x, marks, "in a pair", name(0), tokens(name(0), PARAGRAPH, "{", PARAGRAPH, "}a"));
            paragraphIn(x, marks, "before a row", name(1), tokens(name(1), PARAGRAPH, "!a"));
            paragraphIn(x, marks, "in a pair before a row", name(1), tokens(name(1), "{", PARAGRAPH, "}!a"));
        }
    }

    private static void paragraphIn(MacroExpand x, int marks, String what, int name, int[] fed) {
        feed(x, fed);
        same(what + ", marks " + marks, x.expand(true), marks % 2 == 1 ? 4 : -2);
        same(what + ", name of the fault", x.fault(1), marks % 2 == 1 ? 0 : name);
        same(what + ", at(1)", x.at(1), marks % 2 == 1 ? PARAGRAPH : -1);
    }

    /** "FAULT 1 if the input ends." */
    private static void theInputEnds() {
        MacroExpand x = fresh();
        macro(x, 0, 0, 0, rows("ab"), "x");
        macro(x, 1, 2, 0, rows(), "x");
        macro(x, 2, 2, 0, rows("", "ab", ","), "x");
        faults("before row 0", x, 1, name(0), 1, name(0));
        faults("in row 0", x, 1, name(0), 1, name(0), "a");
        faults("at once", x, 1, name(1), 1, name(1));
        faults("behind BLANKS", x, 1, name(1), 1, name(1), "__");
        faults("in a pair", x, 1, name(1), 1, name(1), "{");
        faults("behind a pair in a pair", x, 1, name(1), 1, name(1), "{{}");
        faults("in the second argument", x, 1, name(1), 1, name(1), "{a}");
        faults("before a row", x, 1, name(2), 1, name(2));
        faults("behind a part of a row", x, 1, name(2), 1, name(2), "a");
        faults("in a pair before a row", x, 1, name(2), 1, name(2), "{ab,");
        faults("before the second row", x, 1, name(2), 1, name(2), "ab");
        gives("not when all is there", x, tokens(name(2), "ab,"), "x");
    }

    /** "(Where all of row k comes it is not looked at otherwise.)" */
    private static void allOfARowIsNotLookedAt() {
        MacroExpand x = fresh();
        macro(x, 0, 0, 2, rows(), "o");
        macro(x, 1, 1, 0, rows("", tokens(name(0), PARAGRAPH)), "<", par(1), ">");
        gives("outer name and PARAGRAPH in the row", x, tokens(name(1), "a", name(0), PARAGRAPH), "<a>");
        gives("at once", x, tokens(name(1), name(0), PARAGRAPH), "<>");
        faults("a part of the row", x, 2, name(1), 1, name(1), "a", name(0), "a");
        faults("a part of the row at the end", x, 2, name(1), 1, name(1), "a", name(0));
        faults("the row in a pair", x, 2, name(1), 1, name(1), "{", name(0), PARAGRAPH, "}");
    }

    /** "parameters of level 0 as their arguments (nothing, if there are not so many), others with a level less". */
    private static void parametersOfTheBody() {
        MacroExpand x = fresh();
        macro(x, 0, 0, 0, rows(), par(1), "a", par(9));
        macro(x, 1, 1, 0, rows(), par(1), par(2), par(1));
        macro(x, 2, 9, 0, rows(), par(9), par(1));
        gives("no argument", x, tokens(name(0)), "a");
        same("what came", x.traced(0, 2), 1);
        gives("one argument", x, tokens(name(1), "{xy}"), "xyxy");
        gives("nine arguments", x, tokens(name(2), "123456789"), "91");
        gives("parameters in arguments stay", x, tokens(name(1), "{", par(1), par(3, 4), "}"),
                par(1), par(3, 4), par(1), par(3, 4));
        int number = x.define(3, 0, 0);
        for (int level = 1; level <= 8; level++) {
            x.body(number, par(level, 1));
            x.body(number, par(level, 9));
        }
        gives("levels", x, tokens(name(3)), par(1), par(9), par(1, 1), par(1, 9), par(2, 1), par(2, 9), par(3, 1),
                par(3, 9), par(4, 1), par(4, 9), par(5, 1), par(5, 9), par(6, 1), par(6, 9), par(7, 1), par(7, 9));
    }
}
