import java.util.Arrays;
import java.util.List;
import java.util.function.Consumer;

/** The boundary cases of the terms of the layout, a test for each sentence that names one. */
public final class LayoutEdgesTest implements Kinds {
    private static final int NONE = ProsePages.NONE;
    private static final String EIGHT = "abcdefgh";

    public static void main(String[] args) {
        gapsAtTheBeginningAndEnd();
        gapsAtABreak();
        whiteIsFourCharacters();
        breaksEndEmptyLines();
        breaksEndFullLines();
        wordsThatJustFit();
        wordsOfTheWidth();
        wordsLongerThanTheWidth();
        lastPiecesGoOnAsWords();
        longWordsBehindWords();
        headingSigns();
        headingsWithoutWords();
        rulesOfTheWidth();
        lastEmptyLinesOfCode();
        emptyLinesOfCode();
        piecesOfCode();
        itemsWithoutLines();
        itemsWithAnEmptyFirstLine();
        numbersOfItems();
        itemsApart();
        partsOfItemsApart();
        rowsOfInlines();
        widthsInOneAnother();
        widthsAroundFour();
        widthsFarBelowFour();
        whatIsBeyondIsNotSeen();
        spacesAtALinesEnd();
        signsOfEmptyLinesInQuotes();
        blocksWithoutLines();
        blocksWithoutLinesInAQuote();
        blocksWithoutLinesInAnItem();
        listsWithoutItems();
        noLinesAtAll();
        Check.done();
    }

    private static Teller told() {
        return new Teller();
    }

    private static Teller paragraph(String text) {
        return told().block(PARAGRAPH, text);
    }

    private static Teller code(String text) {
        return told().block(CODE, text);
    }

    private static Teller quotes(int n) {
        Teller teller = told();
        for (int i = 0; i < n; i++) {
            teller.open(QUOTE);
        }
        return teller;
    }

    /** How many characters each line has, those that are left out too. */
    private static void lengths(String what, int columns, Teller teller, Integer... due) {
        teller.desk.pages(40, columns);
        Integer[] got = new Integer[teller.desk.about(4)];
        for (int k = 0; k < got.length; k++) {
            got[k] = teller.desk.line(k, 0);
        }
        Check.due(what, Arrays.asList(got), Arrays.asList(due));
    }

    /** What is seen on one page that is long enough. */
    private static void seen(String what, int columns, Teller teller, String due) {
        Check.due(what, teller.seen(40, columns), due);
    }

    private static void gapsAtTheBeginningAndEnd() {
        lengths("a gap at the beginning", 8, paragraph(" a"), 1);
        lengths("a gap at the end", 8, paragraph("a "), 1);
        lengths("gaps of all white at both", 8, paragraph("\t\n\r a \r\n\t"), 1);
        lengths("gaps alone", 8, paragraph(" \t\n\r "));
        lengths("in GROUPS", 8, told().open(PARAGRAPH, GROUP).say(" ").end(1).say("a").open(GROUP).say(" "), 1);
        lengths("in a HEADING", 8, told().block(HEADING, " a "), 3);
        lengths("in an ITEM", 8, told().open(ROW, ITEM).say(" a "), 3);
        seen("a gap at the beginning is not seen", 8, paragraph("  a"), "a");
        lengths("a gap where a line is full", 8, paragraph("abcd efg   hij "), 8, 3);
    }

    private static void gapsAtABreak() {
        Teller teller = told().open(PARAGRAPH).say("a  ").br().say("  b");
        lengths("before and behind a BREAK", 8, teller, 1, 1);
        seen("before and behind a BREAK", 8, teller, "a|b");
        lengths("white alone behind a BREAK", 8, told().open(PARAGRAPH).say("a").br().say(" \n"), 1);
        lengths("white alone before a BREAK", 8, told().open(PARAGRAPH).say(" \n").br(), 0);
    }

    private static void whiteIsFourCharacters() {
        for (int c = 0; c < 256; c++) {
            boolean isWhite = c == 9 || c == 10 || c == 13 || c == 32;
            ProsePages desk = told().open(PARAGRAPH).desk;
            desk.say('a', c, c, 'b', 4);
            desk.pages(5, 8);
            Check.due("letters with character " + c, desk.line(0, 0), isWhite ? 3 : 4);
            Check.due("between them", desk.cell(0, 0, 1), isWhite ? 32 : c);
            Check.due("lines", desk.about(4), 1);
        }
    }

    private static void breaksEndEmptyLines() {
        lengths("a BREAK alone", 8, told().open(PARAGRAPH).br(), 0);
        lengths("two BREAKS alone", 8, told().open(PARAGRAPH).br().br(), 0, 0);
        lengths("a BREAK first", 8, told().open(PARAGRAPH).br().say("a"), 0, 1);
        lengths("a BREAK last", 8, told().open(PARAGRAPH).say("a").br(), 1);
        lengths("two BREAKS last", 8, told().open(PARAGRAPH).say("a").br().br(), 1, 0);
        lengths("two BREAKS between", 8, told().open(PARAGRAPH).say("a").br().br().say("b"), 1, 0, 1);
        lengths("in a GROUP", 8, told().open(PARAGRAPH, GROUP).br().end(1).open(GROUP).br(), 0, 0);
        lengths("in a HEADING", 8, told().open(HEADING).br().br().say("a"), 1, 0, 1);
        lengths("in an ITEM", 8, told().open(ROW, ITEM).br().br().say("a"), 1, 0, 3);
        lengths("in a QUOTE", 8, told().open(QUOTE, PARAGRAPH).br().br(), 1, 1);
    }

    private static void breaksEndFullLines() {
        lengths("behind a full line", 8, told().open(PARAGRAPH).say(EIGHT).br().say("a"), 8, 1);
        lengths("behind a full line, last", 8, told().open(PARAGRAPH).say(EIGHT).br(), 8);
        lengths("behind a full line, twice", 8, told().open(PARAGRAPH).say(EIGHT).br().br(), 8, 0);
        lengths("behind a word of twice the width", 8, told().open(PARAGRAPH).say(EIGHT + EIGHT).br().say("a"), 8, 8, 1);
        lengths("behind a last piece", 8, told().open(PARAGRAPH).say(EIGHT + "i").br().say("a"), 8, 1, 1);
    }

    private static void wordsThatJustFit() {
        lengths("one less than the width", 8, paragraph("abc def"), 7);
        lengths("just the width", 8, paragraph("abc defg"), 8);
        lengths("one more than the width", 8, paragraph("abc defgh"), 3, 5);
        lengths("a letter at the end", 8, paragraph("abcdef g"), 8);
        lengths("a letter too many", 8, paragraph("abcdefg h"), 7, 1);
        lengths("three words", 8, paragraph("a bc def g"), 8, 1);
    }

    private static void wordsOfTheWidth() {
        lengths("just the width", 8, paragraph(EIGHT), 8);
        lengths("two of them", 8, paragraph(EIGHT + " " + EIGHT), 8, 8);
        lengths("with others", 8, paragraph("a " + EIGHT + " b"), 1, 8, 1);
        lengths("just the width of 60", 60, paragraph("x".repeat(60)), 60);
        lengths("just the width in a QUOTE", 8, told().open(QUOTE).block(PARAGRAPH, "abcdef"), 8);
        lengths("one more in a QUOTE", 8, told().open(QUOTE).block(PARAGRAPH, "abcdefg"), 8, 3);
    }

    private static void wordsLongerThanTheWidth() {
        lengths("one more", 8, paragraph(EIGHT + "i"), 8, 1);
        lengths("twice the width", 8, paragraph(EIGHT + EIGHT), 8, 8);
        lengths("twice the width and one", 8, paragraph(EIGHT + EIGHT + "i"), 8, 8, 1);
        lengths("one more than 60", 60, paragraph("x".repeat(61)), 60, 1);
        seen("in its order", 8, paragraph("abcdefghijklmnopqrs"), "abcdefgh|ijklmnop|qrs");
        lengths("of three texts", 8, told().open(PARAGRAPH).say("abcde").open(GROUP).say("fgh").end(1).say("i"), 8, 1);
    }

    private static void lastPiecesGoOnAsWords() {
        seen("a word fits behind it", 8, paragraph(EIGHT + "i jklmno"), "abcdefgh|i jklmno");
        seen("a word is one too long", 8, paragraph(EIGHT + "i jklmnop"), "abcdefgh|i|jklmnop");
        seen("a full piece is full", 8, paragraph(EIGHT + EIGHT + " i"), "abcdefgh|abcdefgh|i");
        seen("a piece one less than full", 8, paragraph(EIGHT + "1234567 i"), "abcdefgh|1234567|i");
        seen("a piece two less than full", 8, paragraph(EIGHT + "123456 i"), "abcdefgh|123456 i");
        seen("a long word behind it", 8, paragraph(EIGHT + "i " + EIGHT + "j k"), "abcdefgh|i|abcdefgh|j k");
    }

    private static void longWordsBehindWords() {
        seen("not on the rest of a line", 8, paragraph("a " + EIGHT + "i"), "a|abcdefgh|i");
        seen("behind a full line", 8, paragraph("abc defg " + EIGHT + "i"), "abc defg|abcdefgh|i");
        seen("behind a BREAK", 8, told().open(PARAGRAPH).br().say(EIGHT + "i").br().say("j"), "abcdefgh|i|j");
        lengths("behind a BREAK", 8, told().open(PARAGRAPH).br().say(EIGHT + "i").br().say("j"), 0, 8, 1, 1);
    }

    private static void headingSigns() {
        for (int level = 1; level <= 6; level++) {
            String sign = "=".repeat(level);
            seen("a word fits behind level " + level, 8, told().begin(HEADING, level).say("x".repeat(7 - level)),
                sign + " " + "x".repeat(7 - level));
            seen("a word is too long behind level " + level, 8, told().begin(HEADING, level).say("x".repeat(8 - level)),
                sign + "|" + "x".repeat(8 - level));
        }
        seen("the sign is a word of its own", 8, told().open(HEADING).say("=="), "= ==");
        seen("a sign of the width", 8, quotes(1).begin(HEADING, 6).say("a"), "> ======|> a");
        lengths("a sign longer than the width", 8, quotes(2).begin(HEADING, 5).say("a"), 8, 7);
        seen("its last piece goes on", 8, quotes(2).begin(HEADING, 5).say("a"), "> > ====|> > = a");
        seen("a sign of four in a width of four", 8, quotes(2).begin(HEADING, 4).say("a"), "> > ====|> > a");
    }

    private static void headingsWithoutWords() {
        lengths("nothing", 8, told().begin(HEADING, 6), 6);
        lengths("white", 8, told().begin(HEADING, 2).say("  "), 2);
        lengths("a BREAK", 8, told().begin(HEADING, 2).br(), 2);
        lengths("a GROUP", 8, told().begin(HEADING, 2).open(GROUP), 2);
        lengths("between others", 8, told().open(RULE, HEADING).end(1).open(RULE), 8, 0, 1, 0, 8);
    }

    private static void rulesOfTheWidth() {
        lengths("the fewest columns", 8, told().open(RULE), 8);
        lengths("the most columns", 60, told().open(RULE), 60);
        seen("in an ITEM", 8, told().open(ROW, ITEM, RULE), "* ------");
        seen("in a NUMBERED's ITEM", 9, told().begin(NUMBERED, 10).open(ITEM, RULE), "10. -----");
    }

    private static void lastEmptyLinesOfCode() {
        lengths("nothing", 8, told().open(CODE));
        lengths("a 10 alone", 8, code("\n"), 0);
        lengths("two", 8, code("\n\n"), 0, 0);
        lengths("no 10 at the end", 8, code("a"), 1);
        lengths("a 10 at the end", 8, code("a\n"), 1);
        lengths("two at the end", 8, code("a\n\n"), 1, 0);
        lengths("three at the end", 8, code("a\n\n\n"), 1, 0, 0);
        lengths("a space behind the last 10", 8, code("a\n "), 1, 0);
        lengths("no other ends a line", 8, code("a\r\tb\r"), 5);
    }

    private static void emptyLinesOfCode() {
        lengths("the first", 8, code("\na"), 0, 1);
        lengths("between", 8, code("a\n\nb"), 1, 0, 1);
        lengths("two between", 8, code("a\n\n\nb"), 1, 0, 0, 1);
        lengths("in a QUOTE", 8, quotes(1).block(CODE, "a\n\nb"), 3, 1, 3);
        lengths("in an ITEM", 8, told().open(ROW, ITEM).block(CODE, "\na"), 1, 3);
    }

    private static void piecesOfCode() {
        lengths("just the width", 8, code(EIGHT), 8);
        lengths("just the width and a 10", 8, code(EIGHT + "\n"), 8);
        lengths("just the width and two", 8, code(EIGHT + "\n\n"), 8, 0);
        lengths("just the width and a line", 8, code(EIGHT + "\na"), 8, 1);
        lengths("one more", 8, code(EIGHT + "i\na"), 8, 1, 1);
        lengths("twice the width", 8, code(EIGHT + EIGHT + "\na"), 8, 8, 1);
        lengths("twice the width and one", 8, code(EIGHT + EIGHT + "i"), 8, 8, 1);
        seen("cut in words and gaps", 8, code("ab cdefg hi  j"), "ab cdefg| hi  j");
        lengths("a piece of spaces", 8, code(EIGHT + "   "), 8, 0);
        lengths("in a width of four", 8, quotes(2).block(CODE, "abcde"), 8, 5);
    }

    private static final List<Consumer<Teller>> LINELESS = List.of(
        t -> { },
        t -> t.say(" \n"),
        t -> t.open(GROUP).end(1),
        t -> t.open(PARAGRAPH).end(1),
        t -> t.block(PARAGRAPH, " "),
        t -> t.open(CODE).end(1),
        t -> t.open(QUOTE).end(1),
        t -> t.open(QUOTE, PARAGRAPH).end(2),
        t -> t.open(ROW).end(1),
        t -> t.open(NUMBERED).end(1));

    private static void itemsWithoutLines() {
        for (int i = 0; i < LINELESS.size(); i++) {
            Teller teller = told().open(ROW, ITEM);
            LINELESS.get(i).accept(teller);
            lengths("the sign alone, " + i, 8, teller, 1);
            seen("the sign alone, " + i, 8, teller, "*");
            teller.end(1).open(ITEM).say("a");
            seen("before another one, " + i, 8, teller, "*|* a");
        }
        seen("in an ITEM", 8, told().open(ROW, ITEM, ROW, ITEM), "* *");
        seen("numbered", 8, told().begin(NUMBERED, 9).open(ITEM).end(1).open(ITEM), "9.|10.");
        seen("apart", 8, told().open(ROW, ITEM).end(1).open(ITEM).block(PARAGRAPH, "a").end(1).open(ITEM), "*||* a||*");
        seen("in a QUOTE", 8, quotes(1).open(ROW, ITEM), "> *");
    }

    private static void itemsWithAnEmptyFirstLine() {
        seen("a BREAK", 8, told().open(ROW, ITEM).br().say("a"), "*|  a");
        seen("a CODE's", 8, told().open(ROW, ITEM).block(CODE, "\na"), "*|  a");
        seen("a BREAK alone", 8, told().open(ROW, ITEM).br().end(1).open(ITEM).say("a"), "*|* a");
        seen("a QUOTE's", 8, told().open(ROW, ITEM, QUOTE).block(CODE, "\na"), "* >|  > a");
    }

    private static void numbersOfItems() {
        seen("from 0", 12, told().begin(NUMBERED, 0).open(ITEM).say("a").end(1).open(ITEM).say("b"), "0. a|1. b");
        seen("one digit more", 12, told().begin(NUMBERED, 99).open(ITEM).say("a").br().say("b").end(1).open(ITEM).say("c").br()
            .say("d"), "99. a|    b|100. c|     d");
        Teller most = told().begin(NUMBERED, 999999999).open(ITEM).say("a").br().say("b").end(1).open(ITEM).say("c").br()
            .say("d");
        seen("beyond the most", 20, most, "999999999. a|           b|1000000000. c|            d");
        lengths("beyond the most", 20, most, 12, 12, 13, 13);
        seen("each NUMBERED anew", 12, told().begin(NUMBERED, 7).open(ITEM).begin(NUMBERED, 9).open(ITEM).end(1).open(ITEM)
            .end(2).end(1).open(ITEM), "7. 9.|   10.|8.");
    }

    private static void itemsApart() {
        seen("none holds a PARAGRAPH", 8, told().open(ROW, ITEM).say("a").end(1).open(ITEM).say("b"), "* a|* b");
        seen("the first holds one", 8, told().open(ROW, ITEM).block(PARAGRAPH, "a").end(1).open(ITEM).say("b"), "* a||* b");
        seen("the last holds one", 8, told().open(ROW, ITEM).say("a").end(1).open(ITEM).say("b").end(1).open(ITEM)
            .block(PARAGRAPH, "c"), "* a||* b||* c");
        seen("one in a QUOTE is not held directly", 8, told().open(ROW, ITEM, QUOTE).block(PARAGRAPH, "a").end(2).open(ITEM)
            .say("b"), "* > a|* b");
        seen("one in an inner list is not held directly", 8, told().open(ROW, ITEM, ROW, ITEM).block(PARAGRAPH, "a").end(3)
            .open(ITEM).say("b"), "* * a|* b");
        seen("one without lines counts nowhere", 8, told().open(ROW, ITEM).open(PARAGRAPH).end(1).say("a").end(1).open(ITEM)
            .say("b"), "* a|* b");
        seen("one of an empty line counts", 8, told().open(ROW, ITEM).say("a").end(1).open(ITEM).say("b").open(PARAGRAPH).br(),
            "* a||* b||");
        seen("an ITEM alone", 8, told().open(ROW, ITEM).block(PARAGRAPH, "a").end(2).open(RULE), "* a||--------");
    }

    private static void partsOfItemsApart() {
        seen("none is a PARAGRAPH", 8, told().open(ROW, ITEM).say("a").block(CODE, "b").say("c"), "* a|  b|  c");
        seen("the first is one", 8, told().open(ROW, ITEM).block(PARAGRAPH, "a").block(CODE, "b").say("c"), "* a||  b||  c");
        seen("the last is one", 8, told().open(ROW, ITEM).say("a").block(CODE, "b").block(PARAGRAPH, "c"), "* a||  b||  c");
        seen("another ITEM's parts stay", 8, told().open(ROW, ITEM).say("a").block(CODE, "b").end(1).open(ITEM)
            .block(PARAGRAPH, "c").block(CODE, "d"), "* a|  b||* c||  d");
        seen("the last one has no lines", 8, told().open(ROW, ITEM).block(PARAGRAPH, "a").block(CODE, "b").open(CODE), "* a||  b");
        seen("a QUOTE's blocks stay apart", 8, told().open(ROW, ITEM, QUOTE, RULE, RULE).end(1).say("a"),
            "* > ----|  >|  > ----|  a");
    }

    private static void rowsOfInlines() {
        seen("before, between and behind blocks", 8, told().open(ROW, ITEM).say("a").open(GROUP).say("b").end(1).open(RULE)
            .say("c").br().say("d").open(RULE).open(GROUP).say("e"), "* ab|  ------|  c|  d|  ------|  e");
        seen("white between blocks", 8, told().open(ROW, ITEM, RULE).say(" ").open(RULE), "* ------|  ------");
        seen("a BREAK between blocks", 8, told().open(ROW, ITEM, RULE).br().open(RULE), "* ------||  ------");
        seen("a GROUP of nothing between blocks", 8, told().open(ROW, ITEM, RULE, GROUP).end(1).open(RULE), "* ------|  ------");
        seen("a GROUP of nothing at the end", 8, told().open(ROW, ITEM).say("a").open(GROUP), "* a");
        seen("a GROUP of nothing at the beginning", 8, told().open(ROW, ITEM, GROUP).end(1).say("a"), "* a");
        seen("a GROUP of nothing in a word", 8, told().open(ROW, ITEM).say("a").open(GROUP).end(1).say("b"), "* ab");
        seen("a BREAK beside a PARAGRAPH", 8, told().open(ROW, ITEM).br().block(PARAGRAPH, "a"), "*||  a");
    }

    private static void widthsInOneAnother() {
        lengths("a QUOTE in a QUOTE", 30, quotes(2).open(RULE), 30);
        lengths("an ITEM in an ITEM", 30, told().open(ROW, ITEM, ROW, ITEM, RULE), 30);
        lengths("an ITEM in a QUOTE in an ITEM", 30, told().begin(NUMBERED, 100).open(ITEM, QUOTE).begin(NUMBERED, 9)
            .open(ITEM, RULE).end(1).open(ITEM, RULE), 30, 30);
        lengths("what is behind an ITEM", 30, told().open(ROW, ITEM, ROW, ITEM, RULE).end(2).open(RULE).end(2).open(RULE),
            30, 30, 0, 30);
        lengths("what is behind a QUOTE", 30, quotes(2).open(RULE).end(1).open(RULE).end(1).open(RULE), 30, 1, 30, 0, 30);
    }

    private static void widthsAroundFour() {
        lengths("five", 11, quotes(3).open(RULE), 11);
        lengths("four", 10, quotes(3).open(RULE), 10);
        lengths("three", 9, quotes(3).open(RULE), 10);
        lengths("two", 8, quotes(3).open(RULE), 10);
        lengths("four behind a sign", 8, told().begin(NUMBERED, 10).open(ITEM, RULE), 8);
        lengths("three behind a sign", 8, told().begin(NUMBERED, 100).open(ITEM, RULE), 9);
        lengths("four, then three", 8, told().begin(NUMBERED, 99).open(ITEM, RULE).end(1).open(ITEM, RULE), 8, 9);
        lengths("words", 8, quotes(3).block(PARAGRAPH, "abcd ef gh ijk"), 10, 8, 8, 9);
        lengths("a word of five", 8, quotes(3).block(PARAGRAPH, "abcde"), 10, 7);
        lengths("code of five", 8, quotes(3).block(CODE, "abcde"), 10, 7);
    }

    private static void widthsFarBelowFour() {
        lengths("ten QUOTES", 8, quotes(10).open(RULE), 24);
        lengths("a QUOTE in four", 8, quotes(4).open(RULE), 12);
        lengths("long signs", 8, told().begin(NUMBERED, 999999999).open(ITEM).begin(NUMBERED, 999999999).open(ITEM)
            .block(CODE, "abcde"), 26, 23);
        lengths("twelve in one another", 8, told().open(ROW, ITEM, ROW, ITEM, ROW, ITEM, ROW, ITEM, ROW, ITEM).say("abcde"),
            14, 11);
    }

    private static void whatIsBeyondIsNotSeen() {
        Teller teller = quotes(3).block(PARAGRAPH, "abcd ef");
        seen("the first columns", 8, teller, "> > > ab|> > > ef");
        Check.due("the last column", teller.desk.cell(0, 0, 7), (int) 'b');
        Check.due("one beyond", teller.desk.cell(0, 0, 8), NONE);
        Check.due("far beyond", teller.desk.cell(0, 0, 9), NONE);
        Check.due("but it counts", teller.desk.line(0, 0), 10);
        seen("all is beyond", 8, quotes(10).open(RULE), "> > > >");
    }

    private static void spacesAtALinesEnd() {
        lengths("of code", 8, code("a  \n  \n b "), 1, 0, 2);
        lengths("code of spaces, just the width", 8, code(" ".repeat(8)), 0);
        lengths("code of spaces, one more", 8, code(" ".repeat(9)), 0, 0);
        lengths("other white stays", 8, code("a\t\nb\r\n\t"), 2, 2, 1);
        lengths("other characters stay", 8, code("a\u0000\nb\u00a0"), 2, 2);
        lengths("of a sign", 8, told().open(ROW, ITEM).end(1).open(ITEM).say("a"), 1, 3);
        lengths("ahead of an empty line in an ITEM", 8, told().open(ROW, ITEM).block(CODE, "a\n\nb"), 3, 0, 3);
        Check.due("where they were", code("a  \nb").seen(5, 8), "a|b");
    }

    private static void signsOfEmptyLinesInQuotes() {
        lengths("between blocks", 8, quotes(1).open(RULE, RULE), 8, 1, 8);
        lengths("in two QUOTES", 12, quotes(2).open(RULE, RULE), 12, 3, 12);
        lengths("a BREAK's", 8, quotes(1).open(PARAGRAPH).br(), 1);
        lengths("code of spaces", 8, quotes(1).block(CODE, "   \n"), 1);
        lengths("in an ITEM", 12, told().open(ROW, ITEM, QUOTE, RULE, RULE), 12, 3, 12);
        lengths("an ITEM's in a QUOTE", 12, quotes(1).open(ROW, ITEM).block(CODE, "a\n\nb"), 5, 1, 5);
        lengths("between items", 12, quotes(1).open(ROW, ITEM).block(PARAGRAPH, "a").end(1).open(ITEM).say("b"), 5, 1, 5);
        lengths("behind a QUOTE", 8, quotes(1).open(RULE).end(1).open(QUOTE, RULE), 8, 0, 8);
    }

    /** Blocks without lines, as the body, a QUOTE and an ITEM may hold them. */
    private static List<Consumer<Teller>> linelessBlocks() {
        return LINELESS.subList(3, LINELESS.size());
    }

    private static void blocksWithoutLines() {
        for (int i = 0; i < linelessBlocks().size(); i++) {
            Consumer<Teller> none = linelessBlocks().get(i);
            Teller first = told();
            none.accept(first);
            lengths("alone, " + i, 8, first);
            lengths("at the beginning, " + i, 8, first.open(RULE), 8);
            none.accept(first);
            lengths("at the end, " + i, 8, first, 8);
            none.accept(first);
            lengths("two at the end, " + i, 8, first, 8);
            lengths("between, " + i, 8, first.open(RULE), 8, 0, 8);
        }
        lengths("a PARAGRAPH of a BREAK has one", 8, told().open(RULE, PARAGRAPH, BREAK).end(1).open(RULE), 8, 0, 0, 0, 8);
        lengths("a CODE of a 10 has one", 8, told().open(RULE).block(CODE, "\n").open(RULE), 8, 0, 0, 0, 8);
    }

    private static void blocksWithoutLinesInAQuote() {
        for (int i = 0; i < linelessBlocks().size(); i++) {
            Consumer<Teller> none = linelessBlocks().get(i);
            Teller teller = told().open(RULE, QUOTE);
            none.accept(teller);
            lengths("nothing else, " + i, 8, teller, 8);
            teller.open(RULE);
            none.accept(teller);
            teller.open(RULE);
            none.accept(teller);
            lengths("all round, " + i, 8, teller.end(1).open(RULE), 8, 0, 8, 1, 8, 0, 8);
        }
    }

    private static void blocksWithoutLinesInAnItem() {
        for (int i = 0; i < LINELESS.size(); i++) {
            Consumer<Teller> none = LINELESS.get(i);
            Teller tight = told().open(ROW, ITEM);
            none.accept(tight);
            tight.open(RULE);
            none.accept(tight);
            tight.open(RULE);
            none.accept(tight);
            seen("all round, " + i, 8, tight.end(1).open(ITEM).say("a"), "* ------|  ------|* a");
            Teller loose = told().open(ROW, ITEM);
            none.accept(loose);
            loose.block(PARAGRAPH, "a");
            none.accept(loose);
            loose.open(RULE);
            none.accept(loose);
            seen("with a PARAGRAPH, " + i, 8, loose.end(1).open(ITEM).say("b"), "* a||  ------||* b");
        }
    }

    private static void listsWithoutItems() {
        lengths("a ROW", 8, told().open(RULE, ROW).end(1).open(RULE), 8, 0, 8);
        lengths("a NUMBERED", 8, told().open(RULE, NUMBERED).end(1).open(RULE), 8, 0, 8);
        lengths("a ROW with an ITEM has a line", 8, told().open(RULE, ROW, ITEM).end(2).open(RULE), 8, 0, 1, 0, 8);
        lengths("two ROWS are two blocks", 8, told().open(ROW, ITEM).end(2).open(ROW, ITEM), 1, 0, 1);
    }

    private static void noLinesAtAll() {
        for (int i = 0; i < linelessBlocks().size(); i++) {
            Teller teller = told();
            linelessBlocks().get(i).accept(teller);
            Check.due("one empty page, " + i, teller.desk.pages(5, 8), 1);
            Check.due("no lines, " + i, teller.desk.about(4), 0);
            Check.due("none on the page, " + i, teller.desk.page(0, 0), 0);
            Check.due("its first, " + i, teller.desk.page(0, 1), 0);
            Check.due("nothing is seen, " + i, teller.desk.cell(0, 4, 7), 32);
            for (int k = 0; k < teller.desk.about(0); k++) {
                Check.due("node " + k + " is on it, " + i, teller.desk.find(k), 0);
            }
        }
    }
}
