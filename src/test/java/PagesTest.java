/** Promises 6 to 10: how lines come on pages, and what is asked of pages, lines and nodes. */
public final class PagesTest implements Kinds {
    private static final int NONE = ProsePages.NONE;

    public static void main(String[] args) {
        promise6Limits();
        promise6MostLines();
        promise6PagesOfBeforeStay();
        promise6AgainAndAgain();
        promise6NothingIsLeftOver();
        promise7Cells();
        promise8Pages();
        promise8WithoutLines();
        promise9Lines();
        emptyLinesAtABeginning();
        headingsStayWithTheirNext();
        headingsTooLong();
        headingsInAQuote();
        promise10Blocks();
        promise10Inlines();
        promise10WhatStandsBehind();
        promise10LinesBetween();
        promise10LinesLeftOut();
        promise10NoneSuch();
        Check.done();
    }

    private static Teller told() {
        return new Teller();
    }

    private static Teller lines(int n) {
        return told().block(CODE, "a\n".repeat(n));
    }

    private static void promise6Limits() {
        for (int rows : new int[] {Integer.MIN_VALUE, -1, 0, 4, 5, 40, 41, Integer.MAX_VALUE}) {
            for (int columns : new int[] {Integer.MIN_VALUE, -1, 0, 7, 8, 60, 61, Integer.MAX_VALUE}) {
                boolean isRight = rows >= 5 && rows <= 40 && columns >= 8 && columns <= 60;
                ProsePages desk = lines(1).desk;
                Check.due("pages(" + rows + ", " + columns + ")", Check.answer(() -> desk.pages(rows, columns)),
                    isRight ? "1" : "IllegalArgumentException");
                Check.due("pages then", desk.about(3), isRight ? 1 : 0);
            }
        }
    }

    private static void promise6MostLines() {
        Teller teller = told().block(CODE, "\n".repeat(1498)).block(CODE, "a");
        Check.due("1500 lines", teller.desk.pages(5, 8), 1);
        Check.due("lines", teller.desk.about(4), 1500);
        Check.due("all but one left out", teller.desk.page(0, 1), 1499);
        Teller more = told().block(CODE, "\n".repeat(1499)).block(CODE, "a");
        Check.throwsState("1501 lines", () -> more.desk.pages(5, 8));
        Check.throwsArgument("looked at first", () -> more.desk.pages(4, 8));
        Check.due("1500 lines", lines(1500).desk.pages(40, 60), 38);
        Check.throwsState("1501 lines", () -> lines(1501).desk.pages(40, 60));
    }

    private static void promise6PagesOfBeforeStay() {
        Teller teller = told().open(ROW, ITEM).say("abc");
        ProsePages desk = teller.desk;
        desk.pages(6, 9);
        teller.block(CODE, "\n".repeat(1500));
        Check.throwsState("too many", () -> desk.pages(7, 10));
        int[] due = {6, 1503, 2, 1, 1, 6, 9};
        for (int what = 0; what < due.length; what++) {
            Check.due("about(" + what + ")", desk.about(what), due[what]);
        }
        Check.due("cell", desk.cell(0, 0, 2), (int) 'a');
        Check.due("found before", desk.find(3), 0);
        Check.due("made behind", desk.find(4), NONE);
        Check.due("line", desk.line(0, 0), 5);
        desk.clear();
        Check.due("other words", teller.block(PARAGRAPH, "x").seen(5, 8), "x");
    }

    private static void promise6AgainAndAgain() {
        Teller teller = told().block(HEADING, "h").open(QUOTE).block(PARAGRAPH, "b b").block(PARAGRAPH, "c").end(1);
        for (int i = 0; i < 3; i++) {
            Check.due("told once", teller.seen(5, 8), "= h||> b b|>|> c");
            Check.due("a heading's line", teller.desk.line(0, 2), 1);
        }
        for (int i = 0; i < 3; i++) {
            teller.desk.clear();
            Check.due("told anew", teller.block(PARAGRAPH, "x").block(CODE, "y\n\n\n\nz").seen(5, 9), "x||y||#z");
            Check.due("no heading's line", teller.desk.line(0, 2), 0);
            Check.due("found", teller.desk.find(3), 0);
            Check.due("pages", teller.desk.about(3), 2);
            teller.open(RULE);
            Check.due("told more", teller.seen(6, 10), "x||y|||#z||----------");
            Check.due("found", teller.desk.find(5), 1);
            Check.due("lines", teller.desk.about(4), 9);
        }
    }

    private static void promise6NothingIsLeftOver() {
        Teller teller = lines(5).open(RULE);
        teller.seen(40, 8);
        teller.seen(40, 8);
        Check.due("a line that had a page", teller.desk.line(5, 1), 0);
        teller.desk.pages(5, 8);
        Check.due("is left out", teller.desk.line(5, 1), NONE);
        teller.desk.clear();
        teller.block(CODE, "a\na\na\na").open(RULE);
        teller.seen(5, 8);
        teller.seen(5, 8);
        teller.desk.clear();
        teller.open(ROW, ITEM).end(1).open(ITEM).end(1).open(ITEM).end(1).open(ITEM).end(1).open(ITEM).end(1).open(ITEM);
        found("items where a line between was", teller, 0, 0, 0, 0, 0, 0, 0, 1);
    }

    private static void promise7Cells() {
        ProsePages desk = told().block(PARAGRAPH, "ab").block(CODE, "\t\u0000").desk;
        desk.pages(5, 8);
        Check.due("a", desk.cell(0, 0, 0), (int) 'a');
        Check.due("b", desk.cell(0, 0, 1), (int) 'b');
        Check.due("behind a line", desk.cell(0, 0, 2), 32);
        Check.due("last column", desk.cell(0, 0, 7), 32);
        Check.due("an empty line", desk.cell(0, 1, 0), 32);
        Check.due("a tab", desk.cell(0, 2, 0), 9);
        Check.due("a zero", desk.cell(0, 2, 1), 0);
        Check.due("last row", desk.cell(0, 4, 7), 32);
        int[][] none = {{-1, 0, 0}, {1, 0, 0}, {0, -1, 0}, {0, 5, 0}, {0, 0, -1}, {0, 0, 8},
            {Integer.MIN_VALUE, Integer.MAX_VALUE, 0}, {0, Integer.MAX_VALUE, 0}, {0, 0, Integer.MAX_VALUE}};
        for (int[] at : none) {
            Check.due("cell(" + at[0] + ", " + at[1] + ", " + at[2] + ")", desk.cell(at[0], at[1], at[2]), NONE);
        }
        ProsePages early = lines(2).block(HEADING, "h").block(PARAGRAPH, "b").desk;
        early.pages(5, 8);
        for (int row = 2; row < 5; row++) {
            Check.due("below the last line of a page", early.cell(0, row, 0), 32);
        }
        desk.begin(RULE, 0);
        Check.due("what is told behind pages() is not seen", desk.cell(0, 4, 0), 32);
    }

    private static void promise8Pages() {
        ProsePages desk = lines(12).desk;
        Check.due("pages", desk.pages(5, 8), 3);
        int[][] due = {{5, 0}, {5, 5}, {2, 10}, {NONE, NONE}};
        for (int p = 0; p < due.length; p++) {
            Check.due("page(" + p + ", 0)", desk.page(p, 0), due[p][0]);
            Check.due("page(" + p + ", 1)", desk.page(p, 1), due[p][1]);
        }
        Check.due("page(-1, 0)", desk.page(-1, 0), NONE);
        Check.due("page(0, 2)", desk.page(0, 2), NONE);
        Check.due("page(0, -1)", desk.page(0, -1), NONE);
        Check.due("just filled", lines(10).desk.pages(5, 8), 2);
    }

    private static void promise8WithoutLines() {
        ProsePages desk = told().desk;
        Check.due("one empty page", desk.pages(5, 8), 1);
        Check.due("page(0, 0)", desk.page(0, 0), 0);
        Check.due("page(0, 1)", desk.page(0, 1), 0);
        Check.due("lines", desk.about(4), 0);
        Check.due("cell", desk.cell(0, 0, 0), 32);
        Check.due("find(0)", desk.find(0), 0);
        ProsePages left = told().block(CODE, "\n\n\n").desk;
        Check.due("one empty page, all lines being left out", left.pages(5, 8), 1);
        Check.due("page(0, 0)", left.page(0, 0), 0);
        Check.due("page(0, 1): as many as there are", left.page(0, 1), 3);
        Check.due("line(2, 1)", left.line(2, 1), NONE);
        Check.due("the last page", left.find(2), 0);
    }

    private static void promise9Lines() {
        ProsePages desk = told().begin(HEADING, 2).say("abc").end(1).block(CODE, "\na\n\n\n\nb").desk;
        desk.pages(5, 8);
        int[][] due = {{6, 0, 1}, {0, 0, 0}, {0, 0, 0}, {1, 0, 0}, {0, 0, 0}, {0, NONE, 0}, {0, NONE, 0}, {1, 1, 0},
            {NONE, NONE, NONE}};
        for (int k = 0; k < due.length; k++) {
            for (int what = 0; what < 3; what++) {
                Check.due("line(" + k + ", " + what + ")", desk.line(k, what), due[k][what]);
            }
        }
        Check.due("line(-1, 0)", desk.line(-1, 0), NONE);
        Check.due("line(0, 3)", desk.line(0, 3), NONE);
        Check.due("line(0, -1)", desk.line(0, -1), NONE);
    }

    private static void emptyLinesAtABeginning() {
        Check.due("an empty line between", lines(5).open(RULE).seen(5, 8), "a|a|a|a|a#--------");
        Check.due("empty lines of a block", told().block(CODE, "a\na\na\na\na\n\n\nb").seen(5, 8), "a|a|a|a|a#b");
        Check.due("at the very beginning", told().block(CODE, "\n\nb\n\nc").seen(5, 8), "b||c");
        Check.due("a page of empty lines is none", told().block(CODE, "a\na\na\na\na\n\n\n").seen(5, 8), "a|a|a|a|a");
        Check.due("empty lines at a page's end stay", told().block(CODE, "a\n\n\n\n\n").seen(5, 8), "a||||");
        Check.due("a quote's are not empty", told().open(QUOTE).block(CODE, "a\na\na\na\na\n\nb").seen(5, 8),
            "> a|> a|> a|> a|> a#>|> b");
    }

    private static void headingsStayWithTheirNext() {
        Check.due("three are left", lines(1).block(HEADING, "h").block(PARAGRAPH, "b").seen(5, 8), "a||= h||b");
        Check.due("two are left", lines(2).block(HEADING, "h").block(PARAGRAPH, "b").seen(5, 8), "a|a|#= h||b");
        Check.due("nothing behind", lines(3).block(HEADING, "h").seen(5, 8), "a|a|a||= h");
        Check.due("two lines, one left", lines(3).block(HEADING, "h h h h").seen(5, 8), "a|a|a|#= h h h|h");
        Check.due("empty ones alone behind", told().block(CODE, "a\na").block(HEADING, "h").block(CODE, "\n\n").seen(5, 8),
            "a|a|#= h|||");
        Check.due("empty ones of what is behind", told().block(CODE, "a").block(HEADING, "h").block(CODE, "\nb").seen(5, 8),
            "a|#= h|||b");
        Check.due("a heading behind a heading", lines(2).block(HEADING, "h").block(HEADING, "i").block(RULE, "").seen(5, 8),
            "a|a|#= h||= i||--------");
        Check.due("in an item", told().open(ROW, ITEM).block(CODE, "a\na\na\na").block(HEADING, "h").say("b").seen(5, 8),
            "* a|  a|  a|  a#  = h|  b");
        Check.due("behind one line", told().open(ROW, ITEM).say("a").block(HEADING, "h h h h h h").say("b b b b")
            .block(CODE, "c").seen(5, 8), "* a|  = h h|  h h h|  h|  b b b#  b|  c");
        Check.due("behind one line, as many as the rows", told().open(ROW, ITEM).say("a").block(HEADING, "abc def ghi jkl")
            .block(CODE, "c").seen(5, 8), "* a#  = abc|  def|  ghi|  jkl|  c");
        Check.due("at a page's beginning", told().block(HEADING, "h").block(PARAGRAPH, "b").seen(5, 8), "= h||b");
    }

    private static void headingsTooLong() {
        String rest = told().block(CODE, "a").block(HEADING, "abcdefgh ijklmnop qrstuvwx yz").block(PARAGRAPH, "b").seen(6, 8);
        Check.due("more than the rows", rest, "a||=|abcdefgh|ijklmnop|qrstuvwx#yz||b");
        String just = told().block(CODE, "a").block(HEADING, "abcdefgh ijklmnop qrstuvwx yz").block(PARAGRAPH, "b").seen(7, 8);
        Check.due("as many as the rows", just, "a|#=|abcdefgh|ijklmnop|qrstuvwx|yz||b");
    }

    private static void headingsInAQuote() {
        Check.due("the > behind a heading is one more", told().open(QUOTE).block(CODE, "a").block(HEADING, "h")
            .block(PARAGRAPH, "b").seen(5, 8), "> a|>|> = h|>|> b");
        Check.due("two are left", told().open(QUOTE).block(CODE, "a\na").block(HEADING, "h").block(PARAGRAPH, "b").seen(5, 8),
            "> a|> a|>|> = h|>#> b");
        Check.due("one is left", told().open(QUOTE).block(CODE, "a\na\na").block(HEADING, "h").block(PARAGRAPH, "b").seen(5, 8),
            "> a|> a|> a|>#> = h|>|> b");
    }

    private static void found(String what, Teller teller, int... due) {
        teller.desk.pages(5, 8);
        for (int k = 0; k < due.length; k++) {
            Check.due(what + ": find(" + k + ")", teller.desk.find(k), due[k]);
        }
    }

    private static void promise10Blocks() {
        found("blocks", lines(5).open(QUOTE).block(PARAGRAPH, "a b c d e f g h i j k l m").open(RULE).end(1).open(ROW, ITEM)
            .block(HEADING, "h"), 0, 0, 0, 1, 1, 1, 2, 2, 2, 2, 2);
        found("items", lines(4).open(ROW, ITEM).end(1).open(ITEM).end(1).open(ITEM).say("x"), 0, 0, 0, 1, 1, 1, 1, 1);
    }

    private static void promise10Inlines() {
        found("inlines are where their leaf begins", lines(3).open(PARAGRAPH).say("a").br().open(GROUP).say("b").br().say("c")
            .end(1).say("d"), 0, 0, 0, 0, 0, 0, 0, 0, 0, 0, 0);
        found("rows of inlines in an item", told().open(ROW, ITEM).say("a").br().say("b").block(CODE, "c\nc\nc").say("d").br()
            .open(GROUP).say("e"), 0, 0, 0, 0, 0, 0, 0, 0, 1, 1, 1, 1);
        found("a CODE's text", lines(4).block(CODE, "x"), 0, 0, 0, 1, 1);
    }

    private static void promise10WhatStandsBehind() {
        found("blocks without lines", lines(5).block(PARAGRAPH, " ").open(QUOTE, ROW).end(2).open(CODE).end(1).open(RULE)
            .block(PARAGRAPH, " "), 0, 0, 0, 1, 1, 1, 1, 1, 1, 1, 1);
        found("the last page if nothing is", lines(6).open(QUOTE, PARAGRAPH), 0, 0, 0, 1, 1);
        found("the sign of an item without words", lines(4).open(ROW, ITEM).say(" ").open(PARAGRAPH, GROUP).end(2)
            .end(1).open(ITEM).say("a"), 0, 0, 0, 1, 1, 1, 1, 1, 1, 1);
        found("a sign's line before the next page", told().block(CODE, "a\na\na").open(ROW, ITEM).say(" ").end(1).open(ITEM)
            .say("b"), 0, 0, 0, 0, 0, 0, 1, 1);
    }

    private static void promise10LinesBetween() {
        found("not the line between blocks", lines(4).open(QUOTE, PARAGRAPH).end(2).block(PARAGRAPH, "b"),
            0, 0, 0, 1, 1, 1, 1);
        found("not a quote's", told().open(QUOTE).block(CODE, "a\na\na\na").open(PARAGRAPH).end(1).block(PARAGRAPH, "b"),
            0, 0, 0, 0, 1, 1, 1);
        found("not the line between items", told().open(ROW, ITEM).block(PARAGRAPH, "a a a a a a a a a a a a").open(QUOTE)
            .end(2).open(ITEM).say("b"), 0, 0, 0, 0, 0, 1, 1, 1);
    }

    private static void promise10LinesLeftOut() {
        found("the first line that came to a page", lines(5).block(CODE, "\n\na"), 0, 0, 0, 1, 1);
        found("all of a leaf left out", lines(5).open(PARAGRAPH).br().end(1).block(CODE, "\n").open(RULE),
            0, 0, 0, 1, 1, 1, 1, 1);
        found("all left out, nothing behind", lines(5).open(PARAGRAPH).br(), 0, 0, 0, 0, 0);
    }

    private static void promise10NoneSuch() {
        Teller teller = lines(1);
        ProsePages desk = teller.desk;
        Check.due("no pages", desk.find(0), NONE);
        desk.pages(5, 8);
        Check.due("the body", desk.find(0), 0);
        Check.due("none such", desk.find(3), NONE);
        Check.due("none such", desk.find(-1), NONE);
        Check.due("none such", desk.find(Integer.MIN_VALUE), NONE);
        Check.due("none such", desk.find(Integer.MAX_VALUE), NONE);
        teller.open(RULE);
        Check.due("made behind the latest pages", desk.find(3), NONE);
        desk.pages(5, 8);
        Check.due("then found", desk.find(3), 0);
    }
}
