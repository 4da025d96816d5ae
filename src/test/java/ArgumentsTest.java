/** Promise 6: what the expansion of a name takes and brings, and its faults. */
public final class ArgumentsTest extends Check {
    public static void main(String[] args) {
        noArguments();
        nextTokens();
        delimited();
        longDelimiters();
        firstRow();
        outerNames();
        paragraphs();
        sizes();
        parameters();
        onceOnly();
        finish();
    }

    private static void noArguments() {
        MacroExpand x = fresh();
        macro(x, 0, 0, 0, rows(), "ab");
        macro(x, 1, 0, 0, rows(), name(0), "c", name(2));
        macro(x, 3, 0, 0, rows());
        feed(x, "<", name(1), name(3), ">");
        whole("nested", x, "<abc", name(2), ">");
        same("steps", x.fault(2), 3);
    }

    private static void nextTokens() {
        MacroExpand x = fresh();
        macro(x, 0, 2, 0, rows(), "[", par(1), "|", par(2), "]");
        feed(x, name(0), "ab");
        whole("single tokens", x, "[a|b]");
        feed(x, name(0), "__{a{b}_}_cd");
        whole("blanks and pairs", x, "[a{b}_|c]d");
        feed(x, name(0), "{}{{}}");
        whole("empty ones", x, "[|{}]");
        feed(x, name(0), HOLD, NAMED);
        whole("any token, and HOLD then holds what comes behind", x, "[|", NAMED, "]");
        nextTokenFaults(x);
    }

    private static void nextTokenFaults(MacroExpand x) {
        feed(x, name(0), "}");
        faulted("CLOSE", x, 7, name(0), 1);
        feed(x, name(0), "a__}");
        faulted("CLOSE behind blanks", x, 7, name(0), 1);
        feed(x, name(0), "a");
        faulted("end", x, 1, name(0), 1);
        feed(x, name(0), "a___");
        faulted("end behind blanks", x, 1, name(0), 1);
        feed(x, name(0), "a{{}");
        faulted("end in a pair", x, 1, name(0), 1);
    }

    private static void delimited() {
        MacroExpand x = fresh();
        macro(x, 0, 2, 0, rows("", ",", ";"), "[", par(1), "|", par(2), "]");
        feed(x, name(0), "_a{,}b,{c};d");
        whole("pairs hide rows", x, "[_a{,}b|c]d");
        feed(x, name(0), ",;");
        whole("empty ones", x, "[|]");
        feed(x, name(0), "{a}{b},{{c}};");
        whole("only one pair round all is left out", x, "[{a}{b}|{c}]");
        feed(x, name(0), "{},{a}_;");
        whole("empty pair", x, "[|{a}_]");
        same("tokens of arguments", x.traced(0, 1), 4);
        feed(x, name(0), "a},b;");
        faulted("CLOSE of none", x, 7, name(0), 1);
        feed(x, name(0), "{a}},b;");
        faulted("CLOSE of none behind a pair", x, 7, name(0), 1);
        feed(x, name(0), "{a,b;");
        faulted("end", x, 1, name(0), 1);
        feed(x, name(0), "a,b");
        faulted("end in the second", x, 1, name(0), 1);
    }

    private static void longDelimiters() {
        MacroExpand x = fresh();
        macro(x, 0, 1, 0, rows("", "aab"), "(", par(1), ")");
        feed(x, name(0), "aaabaab");
        whole("first place", x, "(a)aab");
        feed(x, name(0), "aaaacaabb");
        whole("begun in vain", x, "(aaaac)b");
        feed(x, name(0), "a{aab}a{a}baab");
        whole("not across pairs", x, "(a{aab}a{a}b)");
        feed(x, name(0), "aa");
        faulted("end within the row", x, 1, name(0), 1);
        macro(x, 1, 1, 0, rows("", tokens(BLANK, HOLD, name(0))), "(", par(1), ")");
        feed(x, name(1), "x", BLANK, BLANK, HOLD, name(0), "y");
        whole("any tokens", x, "(x_)y");
        macro(x, 2, 3, 0, rows("", "", ".", ""), par(3), par(2), par(1));
        feed(x, name(2), "_{a}{b}._{c}d");
        whole("mixed", x, "cbad");
    }

    private static void firstRow() {
        MacroExpand x = fresh();
        macro(x, 0, 1, 0, rows("(_", ")"), "<", par(1), ">");
        macro(x, 1, 0, 2, rows(), "o");
        macro(x, 2, 0, 0, rows(tokens("a", PARAGRAPH)), "p");
        feed(x, name(0), "(_a)");
        whole("comes", x, "<a>");
        feed(x, name(0), "((a)");
        faulted("does not come", x, 3, name(0), 1);
        feed(x, name(0), "_(_a)");
        faulted("blanks are not left out", x, 3, name(0), 1);
        feed(x, name(0));
        faulted("end", x, 1, name(0), 1);
        feed(x, name(0), "(");
        faulted("end within", x, 1, name(0), 1);
        feed(x, name(0), "(", name(1));
        faulted("outer name", x, 2, name(0), 1);
        feed(x, name(0), "}");
        faulted("CLOSE", x, 3, name(0), 1);
        macro(x, 3, 0, 1, rows(tokens("a", name(1))), "q");
        feed(x, name(3), "a", name(1));
        faulted("outer name that row 0 has, too", x, 2, name(3), 1);
        feed(x, name(0), PARAGRAPH);
        faulted("PARAGRAPH is only no row", x, 3, name(0), 1);
        feed(x, name(2), "a", PARAGRAPH);
        whole("PARAGRAPH in row 0", x, "p");
    }

    private static void outerNames() {
        MacroExpand x = fresh();
        macro(x, 0, 1, 1, rows(), par(1));
        macro(x, 1, 1, 1, rows("", "!"), par(1));
        macro(x, 2, 0, 2, rows(), "o");
        macro(x, 3, 1, 0, rows("", tokens(name(2), "!")), "(", par(1), ")");
        feed(x, name(2));
        whole("alone", x, "o");
        feed(x, name(0), name(2));
        faulted("next token", x, 2, name(0), 1);
        feed(x, name(0), "{", name(2), "}");
        faulted("in a pair", x, 2, name(0), 1);
        feed(x, name(1), "a", name(2), "!");
        faulted("before a row", x, 2, name(1), 1);
        feed(x, name(3), "a", name(2), "!", "b");
        whole("where all of the row comes", x, "(a)b");
        feed(x, name(3), "a", name(2), "?", name(2), "!");
        faulted("where only a part comes", x, 2, name(3), 1);
        feed(x, name(3), "{", name(2), "!}");
        faulted("row in a pair", x, 2, name(3), 1);
        x.define(2, 0, 0);
        feed(x, name(0), name(2));
        whole("outer no more", x);
        firstAndLastNames();
    }

    private static void firstAndLastNames() {
        MacroExpand x = fresh();
        macro(x, 0, 0, 2, rows(), "o");
        macro(x, 199, 0, 6, rows(), "o");
        macro(x, 1, 1, 1, rows(), par(1));
        macro(x, 2, 0, 5, rows(), "l");
        macro(x, 3, 1, 2, rows(), par(1));
        feed(x, name(1), name(0));
        faulted("name 0", x, 2, name(1), 1);
        feed(x, name(1), name(199));
        faulted("name 199", x, 2, name(1), 1);
        feed(x, name(1), name(2));
        whole("LONG and GLOBAL are not OUTER", x, "l");
        feed(x, name(3), PARAGRAPH);
        faulted("OUTER is not LONG", x, 2, name(3), 1);
        feed(x, name(1), name(4));
        whole("a name without macro", x, name(4));
    }

    private static void paragraphs() {
        MacroExpand x = fresh();
        macro(x, 0, 1, 0, rows(), par(1));
        macro(x, 1, 1, 0, rows("", "!"), par(1));
        macro(x, 2, 1, 1, rows("", "!"), par(1));
        macro(x, 3, 1, 0, rows("", tokens("a", PARAGRAPH)), "(", par(1), ")");
        feed(x, name(0), PARAGRAPH);
        faulted("next token", x, 2, name(0), 1);
        feed(x, name(0), "{a", PARAGRAPH, "}");
        faulted("in a pair", x, 2, name(0), 1);
        feed(x, name(1), "a{", PARAGRAPH, "}!");
        faulted("before a row", x, 2, name(1), 1);
        feed(x, name(2), "a", PARAGRAPH, "!");
        whole("long", x, "a", PARAGRAPH);
        feed(x, name(3), "aa", PARAGRAPH, "b");
        whole("in the row", x, "(a)b");
        feed(x, name(3), "ab", PARAGRAPH, "a", PARAGRAPH);
        faulted("not in the row", x, 2, name(3), 1);
        feed(x, PARAGRAPH);
        whole("alone", x, PARAGRAPH);
    }

    /** Arguments of 399 and on, made of the twenty times twenty that are told. */
    private static void sizes() {
        argumentOf(398, false, 0, 1);
        argumentOf(400, false, 0, 1);
        argumentOf(401, false, 8, 1);
        argumentOf(398, true, 0, 2);
        argumentOf(400, true, 0, 2);
        argumentOf(401, true, 8, 2);
        argumentOf(398, true, 0, 1);
        argumentOf(399, true, 8, 1);
    }

    private static void argumentOf(int size, boolean isDelimited, int fault, int pairs) {
        MacroExpand x = fresh();
        // Delimited with two pairs in it nothing is left out; with one the pair counts, too.
        int inner = isDelimited && pairs == 2 ? size - 4 : size;
        int[] begins = isDelimited && pairs == 2 ? tokens("{}{") : tokens("{");
        int[] ends = isDelimited ? tokens("}!") : tokens("}");
        macro(x, 0, 1, 0, rows(), name(1), begins, times(20, par(1)), times(inner % 20, "a"), ends);
        macro(x, 1, 1, 0, rows("", isDelimited ? "!" : ""), "ok");
        feed(x, name(0), OPEN, times(inner / 20, "a"), CLOSE, "?");
        String what = "argument of " + size + " " + isDelimited + " " + pairs;
        if (fault == 0) {
            whole(what, x, "ok?");
            same(what + " traced", x.traced(1, 1), size);
        } else {
            faulted(what, x, fault, name(1), 2);
        }
    }

    private static void parameters() {
        MacroExpand x = fresh();
        macro(x, 0, 1, 0, rows(), par(1), par(2), par(9), par(1, 1), par(8, 9), par(1));
        feed(x, name(0), par(2, 3));
        whole("levels", x, par(2, 3), par(0, 1), par(7, 9), par(2, 3));
        same("came", x.traced(0, 2), 4);
        macro(x, 1, 9, 0, rows(), par(9), par(8), par(7), par(6), par(5), par(4), par(3), par(2), par(1));
        feed(x, name(1), "1234567890");
        whole("nine", x, "9876543210");
        same("nine taken", x.traced(0, 1), 9);
    }

    private static void onceOnly() {
        MacroExpand x = fresh();
        macro(x, 0, 1, 0, rows(), name(1), par(1), DEFINE);
        macro(x, 1, 0, 0, rows(), "b");
        feed(x, name(0), "ac");
        once("name", x, name(1), "a", DEFINE, "c");
        same("steps", x.fault(2), 1);
        once("next", x, "ba", DEFINE, "c");
        once("sign", x, "ba", DEFINE, "c");
        same("no steps", x.fault(2), 0);
        same("nothing traced", x.traced(0, 0), -1);
        x.expand(true);
        feed(x, DEFINE, name(1), "{}");
        once("nothing is carried out", x, DEFINE, name(1), "{}");
        x.expand(true);
        feed(x, LONG);
        once("no mark is taken", x, LONG);
        x.expand(true);
        feed(x, name(0));
        faulted("fault", x, false, 1, name(0), 1);
    }
}
