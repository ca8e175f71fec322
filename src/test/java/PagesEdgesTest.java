import java.util.List;
import java.util.function.Consumer;

/** The boundary cases of promises 6 to 10 and of how lines come on pages, a test for each sentence that names one. */
public final class PagesEdgesTest implements Kinds {
    private static final int NONE = ProsePages.NONE;
    private static final int LEAST = Integer.MIN_VALUE;
    private static final int MOST = Integer.MAX_VALUE;

    public static void main(String[] args) {
        pagesJustFull();
        emptyLinesAtAPagesBeginning();
        emptyLinesAtAPagesEnd();
        linesThatAreNotEmpty();
        headingsByTheRowsThatAreLeft();
        headingsAtAPagesBeginning();
        headingsOfAllRows();
        headingsOfMoreThanAllRows();
        headingsWithNothingBehind();
        headingsWithEmptyLinesBehind();
        headingsBehindHeadings();
        headingsInOthers();
        pagesThatNoLineComesTo();
        noLinesAtAll();
        linesThatAreAllLeftOut();
        nodePagesOfFirstLeaves();
        nodePagesOfInlines();
        nodePagesWhereALeafIsLeftOut();
        nodePagesOfWhatHasNoLines();
        nodePagesWithNothingBehind();
        nodePagesWithoutTheLinesBetween();
        promise6RowsAndColumns();
        promise6ArgumentsAreLookedAtFirst();
        promise6MostLines();
        promise6MostLinesOfEachKind();
        promise6PagesOfBeforeStay();
        promise6ToldBehind();
        promise6NothingOfOtherPagesShows();
        promise7FirstAndLast();
        promise7NoneSuch();
        promise7WhereNothingIs();
        promise8FirstAndLast();
        promise8AnotherWhat();
        promise9FirstAndLast();
        promise9AnotherWhat();
        promise9FirstLinesOfHeadings();
        promise9LeftOut();
        promise10FirstAndLast();
        promise10MadeBehind();
        promise10MadeBehindARefusedCall();
        withoutPages();
        Check.done();
    }

    private static Teller told() {
        return new Teller();
    }

    private static Teller lines(int n) {
        return told().block(CODE, "a\n".repeat(n));
    }

    private static void seen(String what, int rows, Teller teller, String due) {
        Check.due(what, teller.seen(rows, 8), due);
    }

    private static void found(String what, Teller teller, int... due) {
        teller.desk.pages(5, 8);
        Check.due(what + ": nodes", teller.desk.about(0), due.length);
        for (int k = 0; k < due.length; k++) {
            Check.due(what + ": find(" + k + ")", teller.desk.find(k), due[k]);
        }
    }

    private static void pagesJustFull() {
        for (int rows : new int[] {5, 40}) {
            Check.due("one less", lines(rows - 1).desk.pages(rows, 8), 1);
            Check.due("just full", lines(rows).desk.pages(rows, 8), 1);
            Check.due("one more", lines(rows + 1).desk.pages(rows, 8), 2);
            Check.due("two just full", lines(2 * rows).desk.pages(rows, 8), 2);
            Check.due("and one more", lines(2 * rows + 1).desk.pages(rows, 8), 3);
        }
    }

    private static void emptyLinesAtAPagesBeginning() {
        seen("at the first page's", 5, told().block(CODE, "\na"), "a");
        seen("two at the first page's", 5, told().block(CODE, "\n\na"), "a");
        seen("between two blocks", 5, lines(5).open(RULE), "a|a|a|a|a#--------");
        seen("a block's own", 5, told().block(CODE, "a\na\na\na\na\n\nb"), "a|a|a|a|a#b");
        seen("more of them than rows", 5, told().block(CODE, "a\na\na\na\na\n" + "\n".repeat(12) + "b"), "a|a|a|a|a#b");
        seen("code of spaces", 5, told().block(CODE, "a\na\na\na\na\n  \nb"), "a|a|a|a|a#b");
        seen("an ITEM's", 5, told().open(ROW, ITEM).block(CODE, "a\na\na\na\na\n\nb"), "* a|  a|  a|  a|  a#  b");
        seen("between two items", 5, told().open(ROW, ITEM).block(CODE, "a\na\na\na\na").end(1).open(ITEM)
            .block(PARAGRAPH, "b"), "* a|  a|  a|  a|  a#* b");
        seen("then the page has all its rows", 5, lines(5).block(CODE, "b\nb\nb\nb\nb\nc"), "a|a|a|a|a#b|b|b|b|b#c");
    }

    private static void emptyLinesAtAPagesEnd() {
        seen("in the last row", 5, lines(4).open(RULE), "a|a|a|a|#--------");
        seen("in two last rows", 5, told().block(CODE, "a\na\na\n\n\nb"), "a|a|a||#b");
        seen("behind all", 5, told().block(CODE, "a\n\n\n"), "a||");
        seen("up to the last row", 5, told().block(CODE, "a\n\n\n\n\n"), "a||||");
        seen("one more is left out", 5, told().block(CODE, "a\n\n\n\n\n\n"), "a||||");
    }

    private static void linesThatAreNotEmpty() {
        seen("a >", 5, told().open(QUOTE).block(CODE, "a\na\na\na\na\n\nb"), "> a|> a|> a|> a|> a#>|> b");
        seen("a > first of all", 5, told().open(QUOTE).block(CODE, "\nb"), ">|> b");
        seen("a > between blocks", 5, told().open(QUOTE).block(CODE, "a\na\na\na\na").open(RULE),
            "> a|> a|> a|> a|> a#>|> ------");
        seen("a sign", 5, lines(5).open(ROW, ITEM), "a|a|a|a|a#*");
        seen("a tab", 5, lines(5).block(CODE, "\t"), "a|a|a|a|a#\t");
    }

    private static void headingsByTheRowsThatAreLeft() {
        String[] due = {"a||= h||b", "a|a|#= h||b", "a|a|a|#= h||b", "a|a|a|a|#= h||b", "a|a|a|a|a#= h||b"};
        for (int n = 1; n <= due.length; n++) {
            seen("behind " + n + " lines", 5, lines(n).block(HEADING, "h").block(PARAGRAPH, "b"), due[n - 1]);
        }
        seen("three of six are left", 6, lines(2).block(HEADING, "h").block(PARAGRAPH, "b"), "a|a||= h||b");
        seen("two of six are left", 6, lines(3).block(HEADING, "h").block(PARAGRAPH, "b"), "a|a|a|#= h||b");
        seen("two lines, four are left", 6, told().open(RULE).block(HEADING, "abc defgh").block(PARAGRAPH, "b"),
            "--------||= abc|defgh||b");
        seen("two lines, three are left", 6, lines(2).block(HEADING, "abc defgh").block(PARAGRAPH, "b"),
            "a|a|#= abc|defgh||b");
        seen("one more is but the first line", 5, lines(1).block(HEADING, "h").block(CODE, "b\nc"), "a||= h||b#c");
    }

    private static void headingsAtAPagesBeginning() {
        seen("the first page's", 5, told().block(HEADING, "h"), "= h");
        seen("longer than a page", 5, told().block(HEADING, "aaaaaaa bbbbbbb ccccccc ddddddd eeeeeee"),
            "=|aaaaaaa|bbbbbbb|ccccccc|ddddddd#eeeeeee");
        seen("behind a full page", 5, lines(5).block(HEADING, "aaaaaaa bbbbbbb ccccccc ddddddd").block(PARAGRAPH, "b"),
            "a|a|a|a|a#=|aaaaaaa|bbbbbbb|ccccccc|ddddddd#b");
        seen("behind a page with an empty line last", 5, lines(4).block(HEADING, "h").open(RULE), "a|a|a|a|#= h||--------");
    }

    private static void headingsOfAllRows() {
        seen("with one more", 5, lines(1).block(HEADING, "aaaaaaa bbbbbbb").block(PARAGRAPH, "c"),
            "a|#=|aaaaaaa|bbbbbbb||c");
        seen("with nothing behind", 5, lines(1).block(HEADING, "aaaaaaa bbbbbbb ccccccc ddddddd"),
            "a|#=|aaaaaaa|bbbbbbb|ccccccc|ddddddd");
        seen("without an empty line behind", 5, told().open(ROW, ITEM).say("a").block(HEADING, "aaaaaa bbbbbb cccccc").say("d"),
            "* a#  =|  aaaaaa|  bbbbbb|  cccccc|  d");
    }

    private static void headingsOfMoreThanAllRows() {
        seen("by one, with one more", 5, lines(1).block(HEADING, "aaaaaaa bbbbbbb ccccccc").block(PARAGRAPH, "d"),
            "a||=|aaaaaaa|bbbbbbb#ccccccc||d");
        seen("by one, with nothing behind", 5, lines(1).block(HEADING, "aaaaaaa bbbbbbb ccccccc ddddddd eeeeeee"),
            "a||=|aaaaaaa|bbbbbbb#ccccccc|ddddddd|eeeeeee");
        seen("by an empty line behind", 5, lines(1).block(HEADING, "aaaaaaa bbbbbbb").block(CODE, "\nc"),
            "a||=|aaaaaaa|bbbbbbb#c");
        seen("in the last row", 5, lines(3).block(HEADING, "aaaaaaa bbbbbbb ccccccc").block(PARAGRAPH, "d"),
            "a|a|a||=#aaaaaaa|bbbbbbb|ccccccc||d");
    }

    private static void headingsWithNothingBehind() {
        seen("in the last row", 5, lines(3).block(HEADING, "h"), "a|a|a||= h");
        seen("two lines in two rows", 5, lines(2).block(HEADING, "abc defgh"), "a|a||= abc|defgh");
        seen("two lines in one row", 5, lines(3).block(HEADING, "abc defgh"), "a|a|a|#= abc|defgh");
        seen("blocks without lines behind", 5, lines(3).block(HEADING, "h").open(PARAGRAPH).end(1).open(QUOTE), "a|a|a||= h");
    }

    private static void headingsWithEmptyLinesBehind() {
        seen("one of a CODE, and one more", 5, told().block(CODE, "a").block(HEADING, "h").block(CODE, "\nb"), "a|#= h|||b");
        seen("as many as the rows", 5, lines(1).block(HEADING, "h").block(CODE, "\n\nb"), "a|#= h||||b");
        seen("more than the rows", 5, lines(1).block(HEADING, "h").block(CODE, "\n\n\nb"), "a||= h||#b");
        seen("and none more, too many for the page", 5, lines(2).block(HEADING, "h").block(CODE, "\n"), "a|a|#= h||");
        seen("and none more, on the page", 5, lines(1).block(HEADING, "h").block(CODE, "\n"), "a||= h||");
        seen("a > is one more", 5, told().open(QUOTE).block(CODE, "a\na").block(HEADING, "h").block(PARAGRAPH, "b"),
            "> a|> a|>|> = h|>#> b");
    }

    private static void headingsBehindHeadings() {
        seen("the second is one more", 5, lines(1).block(HEADING, "h").block(HEADING, "i").block(PARAGRAPH, "b"),
            "a||= h|#= i||b");
        seen("both go on", 5, lines(2).block(HEADING, "h").block(HEADING, "i"), "a|a|#= h||= i");
        seen("three alone", 5, told().block(HEADING, "h").block(HEADING, "i").block(HEADING, "j"), "= h||= i||= j");
        seen("four alone", 5, told().block(HEADING, "h").block(HEADING, "i").block(HEADING, "j").block(HEADING, "k"),
            "= h||= i|#= j||= k");
        seen("the second at a page's beginning", 5, told().block(HEADING, "aaaaaaa bbbbbbb ccccccc ddddddd").block(HEADING, "i"),
            "=|aaaaaaa|bbbbbbb|ccccccc|ddddddd#= i");
    }

    private static void headingsInOthers() {
        seen("behind an ITEM's sign", 5, lines(3).open(ROW, ITEM).block(HEADING, "h").say("b"), "a|a|a|#* = h|  b");
        seen("in an ITEM, with room", 5, lines(2).open(ROW, ITEM).block(HEADING, "h").say("b"), "a|a||* = h|  b");
        seen("the next ITEM is one more", 5, lines(3).open(ROW, ITEM).block(HEADING, "h").end(1).open(ITEM), "a|a|a|#* = h|*");
        seen("in a QUOTE, what is behind it", 5, lines(2).open(QUOTE).block(HEADING, "h").end(1).open(RULE),
            "a|a|#> = h||--------");
        seen("a PARAGRAPH is none", 5, lines(3).block(PARAGRAPH, "= h").block(PARAGRAPH, "b"), "a|a|a||= h#b");
    }

    private static void pagesThatNoLineComesTo() {
        Teller teller = told().block(CODE, "a\na\na\na\na\n\n\n\n");
        Check.due("empty lines behind a full page", teller.desk.pages(5, 8), 1);
        Check.due("they are lines", teller.desk.about(4), 8);
        Check.due("there is none such", teller.desk.page(1, 0), NONE);
        Check.due("the page has no more", teller.desk.page(0, 0), 5);
        Teller first = told().block(CODE, "\n\n\n\n\n\n\na");
        Check.due("empty lines for a whole page first", first.desk.pages(5, 8), 1);
        Check.due("the page's first line", first.desk.page(0, 1), 7);
        Check.due("one block without lines behind a full page", lines(5).open(PARAGRAPH).desk.pages(5, 8), 1);
    }

    private static void emptyPage(String what, ProsePages desk, int lines) {
        Check.due(what + ": one page", desk.pages(5, 8), 1);
        Check.due(what + ": pages", desk.about(3), 1);
        Check.due(what + ": lines", desk.about(4), lines);
        Check.due(what + ": its lines", desk.page(0, 0), 0);
        Check.due(what + ": its first, as many as there are", desk.page(0, 1), lines);
        Check.due(what + ": no second page", desk.page(1, 0), NONE);
        for (int row = 0; row < 5; row++) {
            for (int column = 0; column < 8; column++) {
                Check.due(what + ": nothing is seen", desk.cell(0, row, column), 32);
            }
        }
        for (int k = 0; k < desk.about(0); k++) {
            Check.due(what + ": find(" + k + ")", desk.find(k), 0);
        }
    }

    private static void noLinesAtAll() {
        emptyPage("nothing told", told().desk, 0);
        emptyPage("blocks without lines", told().open(QUOTE, PARAGRAPH).end(2).open(CODE).desk, 0);
        Check.due("no line", told().desk.line(0, 0), NONE);
    }

    private static void linesThatAreAllLeftOut() {
        emptyPage("a BREAK", told().open(PARAGRAPH, BREAK).desk, 1);
        emptyPage("a CODE's", told().block(CODE, "\n\n\n").desk, 3);
        emptyPage("two blocks' and one between", told().block(CODE, "\n").open(PARAGRAPH, BREAK).desk, 3);
        emptyPage("more than a page's", told().block(CODE, "\n".repeat(20)).desk, 20);
    }

    private static void nodePagesOfFirstLeaves() {
        found("each leaf", lines(4).open(RULE).block(HEADING, "h").block(PARAGRAPH, "b").block(CODE, "c\nc"),
            0, 0, 0, 1, 1, 1, 1, 1, 2, 2);
        found("a QUOTE's first", lines(3).open(QUOTE, RULE, RULE), 0, 0, 0, 0, 0, 1);
        found("an ITEM's row of inlines", told().open(ROW, ITEM).block(CODE, "a\na\na\na").end(1).open(ITEM).say("b").br()
            .say("c"), 0, 0, 0, 0, 0, 0, 0, 0, 0);
        found("a leaf over two pages", lines(3).block(CODE, "b\nb\nb"), 0, 0, 0, 0, 0);
        found("the body", told().block(CODE, "\n".repeat(9)).open(RULE), 0, 0, 0, 0);
    }

    private static void nodePagesOfInlines() {
        found("in a later line", lines(3).open(PARAGRAPH).say("b").br().say("c").open(GROUP).say("d"), 0, 0, 0, 0, 0, 0, 0, 0, 0);
        found("in a HEADING that goes on", lines(3).open(HEADING).say("h").br().open(GROUP).say("i"), 0, 0, 0, 1, 1, 1, 1, 1);
        found("in two rows of an ITEM", told().open(ROW, ITEM).say("a").open(GROUP).br().say("b").end(1)
            .block(CODE, "c\nc\nc").open(GROUP).say("d").br().end(1).say("e"), 0, 0, 0, 0, 0, 0, 0, 0, 0, 1, 1, 1, 1);
        found("a CODE's TEXT", lines(4).block(CODE, "b"), 0, 0, 0, 1, 1);
        found("white in a leaf of words", lines(4).open(PARAGRAPH).say(" ").open(GROUP).say(" ").end(1).say("b"),
            0, 0, 0, 1, 1, 1, 1, 1);
    }

    private static void nodePagesWhereALeafIsLeftOut() {
        found("its first line", lines(5).block(CODE, "\n\nb"), 0, 0, 0, 1, 1);
        found("all its lines", lines(5).open(PARAGRAPH, BREAK).end(1).open(RULE), 0, 0, 0, 1, 1, 1);
        found("its lines and the next one's", lines(5).open(PARAGRAPH, BREAK).end(1).block(CODE, "\n").open(RULE),
            0, 0, 0, 1, 1, 1, 1, 1);
        found("in an ITEM", told().open(ROW, ITEM).block(CODE, "a\na\na\na\na").block(CODE, "\n").say("b"),
            0, 0, 0, 0, 0, 1, 1, 1);
        found("its first lines are on a page", lines(3).block(CODE, "\n\n\nb"), 0, 0, 0, 0, 0);
        found("its last line alone is on a page", lines(4).block(CODE, "\nb"), 0, 0, 0, 1, 1);
    }

    private static void nodePagesOfWhatHasNoLines() {
        found("before a block", lines(5).open(PARAGRAPH, GROUP).end(2).open(RULE), 0, 0, 0, 1, 1, 1);
        found("in a QUOTE, before what is behind that", lines(5).open(QUOTE, QUOTE, CODE).end(3).open(RULE),
            0, 0, 0, 1, 1, 1, 1);
        found("at a QUOTE's end", told().open(QUOTE).block(CODE, "a\na\na\na\na").open(PARAGRAPH).end(2).open(RULE),
            0, 0, 0, 0, 1, 1);
        found("a ROW of nothing", lines(5).open(ROW).end(1).open(NUMBERED).end(1).open(RULE), 0, 0, 0, 1, 1, 1);
        found("an ITEM of nothing has its sign", lines(3).open(ROW, ITEM).end(1).open(ITEM), 0, 0, 0, 0, 0, 1);
        found("white in an ITEM of nothing", lines(3).open(ROW, ITEM).say(" ").open(QUOTE).end(1).open(GROUP).end(2).open(ITEM),
            0, 0, 0, 0, 0, 0, 0, 0, 1);
        found("white behind an ITEM's block", told().open(ROW, ITEM).block(CODE, "a\na\na\na\na").say(" ").end(1).open(ITEM),
            0, 0, 0, 0, 0, 1, 1);
    }

    private static void nodePagesWithNothingBehind() {
        found("a block without lines", lines(6).open(PARAGRAPH), 0, 0, 0, 1);
        found("in a QUOTE", lines(6).open(QUOTE, ROW), 0, 0, 0, 1, 1);
        found("an inline", lines(6).open(PARAGRAPH).say(" ").open(GROUP), 0, 0, 0, 1, 1, 1);
        found("a leaf that is left out", lines(10).open(PARAGRAPH, BREAK), 0, 0, 0, 1, 1);
        found("a CODE that is left out", lines(10).block(CODE, "\n\n"), 0, 0, 0, 1, 1);
        found("the last of an ITEM", told().open(ROW, ITEM).block(CODE, "a\na\na\na\na\na").say(" "), 0, 0, 0, 0, 0, 1);
    }

    private static void nodePagesWithoutTheLinesBetween() {
        found("between blocks", lines(4).open(PARAGRAPH).end(1).open(RULE), 0, 0, 0, 1, 1);
        found("between a QUOTE's blocks", told().open(QUOTE).block(CODE, "a\na\na\na").open(CODE).end(1).open(RULE),
            0, 0, 0, 0, 1, 1);
        found("at a page's beginning in a QUOTE", told().open(QUOTE).block(CODE, "a\na\na\na\na").open(CODE).end(1)
            .block(CODE, "b\nb\nb\nb"), 0, 0, 0, 0, 1, 1, 1);
        found("between items", told().open(ROW, ITEM).block(CODE, "a\na\na\na").open(QUOTE).end(2).open(ITEM)
            .block(PARAGRAPH, "b"), 0, 0, 0, 0, 0, 1, 1, 1, 1);
        found("between an ITEM's parts", told().open(ROW, ITEM).block(CODE, "a\na\na\na").open(QUOTE).end(1)
            .block(PARAGRAPH, "b"), 0, 0, 0, 0, 0, 1, 1, 1);
        found("an empty line of a leaf is not one", lines(3).open(PARAGRAPH, BREAK).end(1).open(RULE), 0, 0, 0, 0, 0, 1);
    }

    private static void promise6RowsAndColumns() {
        int[] rows = {LEAST, -5, 0, 4, 5, 6, 39, 40, 41, 261, MOST};
        int[] columns = {LEAST, -8, 0, 7, 8, 9, 59, 60, 61, 264, MOST};
        for (int r : rows) {
            for (int c : columns) {
                ProsePages desk = lines(1).desk;
                String what = "pages(" + r + ", " + c + ")";
                if (r >= 5 && r <= 40 && c >= 8 && c <= 60) {
                    Check.due(what, desk.pages(r, c), 1);
                    Check.due(what + " has its rows", desk.about(5), r);
                    Check.due(what + " has its columns", desk.about(6), c);
                } else {
                    Check.refusedByArgument(what + " without pages", desk, () -> desk.pages(r, c));
                    desk.pages(7, 9);
                    Check.refusedByArgument(what + " with pages", desk, () -> desk.pages(r, c));
                }
            }
        }
    }

    private static void promise6ArgumentsAreLookedAtFirst() {
        ProsePages desk = lines(1501).desk;
        Check.refusedByArgument("rows, with too many lines", desk, () -> desk.pages(41, 8));
        Check.refusedByArgument("columns, with too many lines", desk, () -> desk.pages(5, 61));
        Check.refusedByState("too many lines", desk, () -> desk.pages(5, 8));
    }

    private static void promise6MostLines() {
        ProsePages desk = lines(1500).desk;
        Check.due("1500 lines", desk.pages(5, 8), 300);
        Check.due("lines", desk.about(4), 1500);
        Check.due("the last line", desk.line(1499, 1), 299);
        Check.due("the last page's first", desk.page(299, 1), 1495);
        ProsePages more = lines(1501).desk;
        Check.refusedByState("1501 lines", more, () -> more.pages(40, 60));
        ProsePages far = lines(1999).desk;
        Check.refusedByState("many more", far, () -> far.pages(40, 60));
    }

    /** A CODE of so many lines, for others to come behind it. */
    private static void most(String what, int lines, Consumer<Teller> others) {
        Teller just = lines(lines);
        others.accept(just);
        just.desk.pages(40, 8);
        Check.due(what + ": 1500 lines", just.desk.about(4), 1500);
        Teller more = lines(lines + 1);
        others.accept(more);
        Check.refusedByState(what + ": 1501 lines", more.desk, () -> more.desk.pages(40, 8));
    }

    private static void promise6MostLinesOfEachKind() {
        most("the one between blocks counts", 1498, t -> t.open(RULE));
        most("words", 1497, t -> t.block(PARAGRAPH, "abcdefghi"));
        most("a BREAK's empty line", 1498, t -> t.open(PARAGRAPH).br().end(1));
        most("a HEADING", 1497, t -> t.block(HEADING, "abcdefg"));
        most("code", 1496, t -> t.block(CODE, "a\n\nb\n"));
        most("in a QUOTE", 1496, t -> t.open(QUOTE, RULE, RULE).end(1));
        most("signs", 1497, t -> t.open(ROW, ITEM).end(1).open(ITEM).end(2));
        most("between items", 1496, t -> t.open(ROW, ITEM).block(PARAGRAPH, "a").end(1).open(ITEM).end(2));
        most("between an ITEM's parts", 1496, t -> t.open(ROW, ITEM).block(PARAGRAPH, "a").say("b").end(2));
        most("what has no lines counts nowhere", 1500, t -> t.open(PARAGRAPH).end(1).open(QUOTE, ROW).end(2));
        ProsePages wide = told().block(CODE, "abcdefghi\n".repeat(200) + "\n".repeat(1101)).desk;
        Check.refusedByState("1501 in 8 columns", wide, () -> wide.pages(5, 8));
        wide.pages(5, 9);
        Check.due("1301 in 9 columns", wide.about(4), 1301);
    }

    private static void promise6PagesOfBeforeStay() {
        Teller teller = told().block(HEADING, "h").open(QUOTE).block(PARAGRAPH, "b c").end(1).open(ROW, ITEM).say("d").end(1)
            .open(ITEM).end(2);
        ProsePages desk = teller.desk;
        desk.pages(5, 9);
        teller.block(CODE, "\n".repeat(1501));
        Check.refusedByState("too many lines", desk, () -> desk.pages(6, 10));
        Check.refusedByState("too many lines again", desk, () -> desk.pages(40, 60));
        Check.due("the pages", desk.about(3), 2);
        Check.due("their rows", desk.about(5), 5);
        Check.due("their columns", desk.about(6), 9);
        Check.due("what is seen", desk.cell(0, 2, 2), (int) 'b');
        Check.due("a heading's line", desk.line(0, 2), 1);
        Check.due("what is told is not lost", desk.about(1), 1506);
        desk.clear();
        Check.due("nothing of a refused call shows", teller.block(PARAGRAPH, "x").seen(5, 8), "x");
        Check.due("nor in the next one", teller.open(RULE).seen(5, 8), "x||--------");
    }

    private static void promise6ToldBehind() {
        Teller teller = told().block(PARAGRAPH, "ab").open(PARAGRAPH).say("c");
        ProsePages desk = teller.desk;
        desk.pages(5, 8);
        teller.say("d").end(1).open(RULE);
        Check.due("pages", desk.about(3), 1);
        Check.due("lines", desk.about(4), 3);
        Check.due("a TEXT that has more now", desk.cell(0, 2, 1), 32);
        Check.due("its line", desk.line(2, 0), 1);
        Check.due("laid out anew", teller.seen(5, 8), "ab||cd||--------");
        Check.due("and in other columns", teller.seen(6, 9), "ab||cd||---------");
        Check.due("and again", teller.seen(5, 8), "ab||cd||--------");
    }

    private static final List<Consumer<Teller>> TEXTS = List.of(
        t -> { },
        t -> t.open(PARAGRAPH).end(1),
        t -> t.block(CODE, "a\na\na\na").open(PARAGRAPH).end(1).open(RULE),
        t -> t.block(CODE, "\n\na\na\na\na\na\n\nb"),
        t -> t.block(HEADING, "h").block(HEADING, "i").block(HEADING, "j").block(HEADING, "k"),
        t -> t.open(ROW, ITEM).end(1).open(ITEM).end(1).open(ITEM).end(1).open(ITEM).end(1).open(ITEM).end(1).open(ITEM).end(2),
        t -> t.begin(NUMBERED, 98).open(ITEM).block(PARAGRAPH, "b").end(1).open(ITEM).say("c").open(QUOTE).end(1)
            .block(PARAGRAPH, "d").end(1).open(ITEM).end(2),
        t -> t.open(QUOTE).block(PARAGRAPH, "a b c d e").open(CODE).end(1).open(QUOTE, RULE, RULE).end(2).open(RULE));

    private static void promise6NothingOfOtherPagesShows() {
        for (int i = 0; i < TEXTS.size(); i++) {
            for (int j = 0; j < TEXTS.size(); j++) {
                // Twice, so that whatever pages() uses again has held other lines before.
                Teller cleared = told();
                TEXTS.get(i).accept(cleared);
                cleared.desk.pages(5, 9);
                cleared.desk.pages(6, 8);
                cleared.desk.clear();
                TEXTS.get(j).accept(cleared);
                Teller fresh = told();
                TEXTS.get(j).accept(fresh);
                samePages("text " + j + " behind text " + i + ", cleared", cleared.desk, fresh.desk);
                Teller more = told();
                TEXTS.get(i).accept(more);
                more.desk.pages(6, 9);
                more.desk.pages(5, 8);
                TEXTS.get(j).accept(more);
                Teller once = told();
                TEXTS.get(i).accept(once);
                TEXTS.get(j).accept(once);
                samePages("text " + j + " behind text " + i, more.desk, once.desk);
            }
        }
    }

    private static void samePages(String what, ProsePages used, ProsePages fresh) {
        fresh.pages(5, 8);
        String due = Whole.of(fresh);
        for (int i = 0; i < 3; i++) {
            used.pages(5, 8);
            Check.due(what, Whole.of(used), due);
        }
    }

    /** Three pages of five rows and eight columns, the last of one line. */
    private static ProsePages three() {
        ProsePages desk = told().block(CODE, "abcdefgh\n".repeat(11)).desk;
        desk.pages(5, 8);
        return desk;
    }

    private static void promise7FirstAndLast() {
        ProsePages desk = three();
        Check.due("first of all", desk.cell(0, 0, 0), (int) 'a');
        Check.due("last column", desk.cell(0, 0, 7), (int) 'h');
        Check.due("last row", desk.cell(0, 4, 0), (int) 'a');
        Check.due("last row and column", desk.cell(1, 4, 7), (int) 'h');
        Check.due("last page", desk.cell(2, 0, 7), (int) 'h');
        Check.due("last of all", desk.cell(2, 4, 7), 32);
        ProsePages most = told().open(RULE).desk;
        most.pages(40, 60);
        Check.due("the most columns", most.cell(0, 0, 59), (int) '-');
        Check.due("the most rows", most.cell(0, 39, 59), 32);
        Check.due("one row beyond the most", most.cell(0, 40, 0), NONE);
        Check.due("one column beyond the most", most.cell(0, 0, 60), NONE);
    }

    private static void promise7NoneSuch() {
        ProsePages desk = three();
        for (int wrong : new int[] {-1, LEAST, MOST}) {
            Check.due("page " + wrong, desk.cell(wrong, 0, 0), NONE);
            Check.due("row " + wrong, desk.cell(0, wrong, 0), NONE);
            Check.due("column " + wrong, desk.cell(0, 0, wrong), NONE);
            Check.due("all " + wrong, desk.cell(wrong, wrong, wrong), NONE);
        }
        for (int i = 0; i < 3; i++) {
            Check.due("page 3", desk.cell(3, i, i), NONE);
            Check.due("row 5 of page " + i, desk.cell(i, 5, 0), NONE);
            Check.due("column 8 of page " + i, desk.cell(i, 0, 8), NONE);
        }
    }

    private static void promise7WhereNothingIs() {
        ProsePages desk = told().block(CODE, "a\n\n  b\na\na\nc").desk;
        desk.pages(5, 8);
        Check.due("behind a line", desk.cell(0, 0, 1), 32);
        Check.due("behind a line, last column", desk.cell(0, 0, 7), 32);
        Check.due("an empty line", desk.cell(0, 1, 0), 32);
        Check.due("before a line's characters", desk.cell(0, 2, 1), 32);
        Check.due("below the last line", desk.cell(1, 1, 0), 32);
        Check.due("the last row", desk.cell(1, 4, 7), 32);
        ProsePages early = lines(2).block(HEADING, "h").block(PARAGRAPH, "b").desk;
        early.pages(5, 8);
        Check.due("below a page that ended early", early.cell(0, 3, 0), 32);
        ProsePages zero = told().block(CODE, "\u0000\u00ff").desk;
        zero.pages(5, 8);
        Check.due("character 0", zero.cell(0, 0, 0), 0);
        Check.due("character 255", zero.cell(0, 0, 1), 255);
    }

    private static void promise8FirstAndLast() {
        ProsePages desk = three();
        int[][] due = {{NONE, NONE}, {5, 0}, {5, 5}, {1, 10}, {NONE, NONE}};
        for (int page = -1; page <= 3; page++) {
            Check.due("page(" + page + ", 0)", desk.page(page, 0), due[page + 1][0]);
            Check.due("page(" + page + ", 1)", desk.page(page, 1), due[page + 1][1]);
        }
        for (int page : new int[] {LEAST, MOST}) {
            Check.due("page(" + page + ", 0)", desk.page(page, 0), NONE);
            Check.due("page(" + page + ", 1)", desk.page(page, 1), NONE);
        }
        ProsePages out = told().block(CODE, "\n\na\na\na\na\na\n\n\nb").desk;
        out.pages(5, 8);
        Check.due("behind lines that are left out", out.page(0, 1), 2);
        Check.due("and on the next page", out.page(1, 1), 9);
        Check.due("of one line", out.page(1, 0), 1);
    }

    private static void promise8AnotherWhat() {
        ProsePages desk = three();
        for (int what : new int[] {-1, 2, 3, 256, LEAST, MOST}) {
            for (int page = -1; page <= 3; page++) {
                Check.due("page(" + page + ", " + what + ")", desk.page(page, what), NONE);
            }
        }
    }

    private static void promise9FirstAndLast() {
        ProsePages desk = three();
        int[][] due = {{8, 0, 0}, {8, 2, 0}};
        for (int what = 0; what < 3; what++) {
            Check.due("line(-1, " + what + ")", desk.line(-1, what), NONE);
            Check.due("line(0, " + what + ")", desk.line(0, what), due[0][what]);
            Check.due("line(10, " + what + ")", desk.line(10, what), due[1][what]);
            Check.due("line(11, " + what + ")", desk.line(11, what), NONE);
            Check.due("line(least, " + what + ")", desk.line(LEAST, what), NONE);
            Check.due("line(most, " + what + ")", desk.line(MOST, what), NONE);
        }
        Check.due("the last of a page", desk.line(4, 1), 0);
        Check.due("the first of the next", desk.line(5, 1), 1);
    }

    private static void promise9AnotherWhat() {
        ProsePages desk = three();
        for (int what : new int[] {-1, 3, 4, 256, LEAST, MOST}) {
            for (int k : new int[] {-1, 0, 10, 11}) {
                Check.due("line(" + k + ", " + what + ")", desk.line(k, what), NONE);
            }
        }
    }

    private static void headingLines(String what, Teller teller, int... due) {
        teller.desk.pages(40, 8);
        Check.due(what + ": lines", teller.desk.about(4), due.length);
        for (int k = 0; k < due.length; k++) {
            Check.due(what + ": line(" + k + ", 2)", teller.desk.line(k, 2), due[k]);
        }
    }

    private static void promise9FirstLinesOfHeadings() {
        headingLines("alone", told().open(HEADING), 1);
        headingLines("of three lines", told().block(HEADING, "aaaaaaa bbbbbbb"), 1, 0, 0);
        headingLines("one behind the other", told().open(HEADING).end(1).open(HEADING), 1, 0, 1);
        headingLines("with a BREAK first", told().open(HEADING).br().br().say("a"), 1, 0, 0);
        headingLines("behind a sign", told().open(ROW, ITEM).block(HEADING, "a").say("b").block(HEADING, "c"), 1, 0, 1);
        headingLines("in a QUOTE", told().open(QUOTE, RULE).block(HEADING, "a"), 0, 0, 1);
        headingLines("a PARAGRAPH is none", told().block(PARAGRAPH, "= a"), 0);
    }

    private static void promise9LeftOut() {
        ProsePages desk = told().block(CODE, "\na\na\na\na\na\n  \nb\n").desk;
        desk.pages(5, 8);
        int[] due = {NONE, 0, 0, 0, 0, 0, NONE, 1, NONE};
        for (int k = 0; k < due.length; k++) {
            Check.due("line(" + k + ", 1)", desk.line(k, 1), due[k]);
        }
        Check.due("a line that is left out has its length", desk.line(0, 0), 0);
        Check.due("and is no heading's", desk.line(6, 2), 0);
    }

    private static void promise10FirstAndLast() {
        ProsePages desk = lines(5).open(RULE).desk;
        desk.pages(5, 8);
        Check.due("the body", desk.find(0), 0);
        Check.due("the last one", desk.find(3), 1);
        for (int node : new int[] {-1, 4, 299, 300, LEAST, MOST}) {
            Check.due("find(" + node + ")", desk.find(node), NONE);
        }
        Teller full = told();
        while (full.desk.about(0) < 300) {
            full.open(RULE);
        }
        full.desk.pages(5, 8);
        Check.due("the last of 300", full.desk.find(299), full.desk.about(3) - 1);
        Check.due("one beyond", full.desk.find(300), NONE);
    }

    private static void promise10MadeBehind() {
        Teller teller = told().open(PARAGRAPH).say("a");
        ProsePages desk = teller.desk;
        desk.pages(5, 8);
        teller.say("b");
        Check.due("a TEXT that has more now", desk.find(2), 0);
        teller.br().say("c").end(1).open(QUOTE, RULE);
        for (int node = 0; node <= 6; node++) {
            Check.due("find(" + node + ")", desk.find(node), node <= 2 ? 0 : NONE);
        }
        desk.pages(6, 9);
        for (int node = 0; node <= 6; node++) {
            Check.due("then find(" + node + ")", desk.find(node), 0);
        }
        desk.clear();
        desk.begin(RULE, 0);
        Check.due("of the number of one before", desk.find(1), NONE);
        desk.pages(5, 8);
        desk.begin(RULE, 0);
        Check.due("found", desk.find(1), 0);
        Check.due("made behind", desk.find(2), NONE);
    }

    private static void promise10MadeBehindARefusedCall() {
        Teller teller = lines(1);
        ProsePages desk = teller.desk;
        desk.pages(5, 8);
        teller.open(RULE);
        Check.throwsArgument("pages that are none", () -> desk.pages(5, 7));
        Check.due("made behind the pages that are", desk.find(3), NONE);
        teller.block(CODE, "\n".repeat(1500));
        Check.throwsState("too many lines", () -> desk.pages(5, 8));
        Check.due("made behind the pages that stay", desk.find(3), NONE);
        Check.due("made before them", desk.find(2), 0);
        desk.clear();
        teller.block(CODE, "\n".repeat(1501));
        Check.throwsState("too many lines for the first pages", () -> desk.pages(5, 8));
        Check.due("no pages", desk.find(1), NONE);
    }

    private static void withoutPages() {
        ProsePages cleared = lines(3).desk;
        cleared.pages(5, 8);
        cleared.clear();
        cleared.begin(RULE, 0);
        for (ProsePages desk : new ProsePages[] {lines(3).desk, cleared}) {
            for (int what = -1; what <= 3; what++) {
                Check.due("page(0, " + what + ")", desk.page(0, what), NONE);
                Check.due("line(0, " + what + ")", desk.line(0, what), NONE);
            }
            Check.due("cell(0, 0, 0)", desk.cell(0, 0, 0), NONE);
            Check.due("find(0)", desk.find(0), NONE);
            Check.due("find(1)", desk.find(1), NONE);
            for (int what = 3; what <= 6; what++) {
                Check.due("about(" + what + ")", desk.about(what), 0);
            }
        }
    }
}
