/** The terms and promises 6, 7 and 9: how blocks become lines and words come on them. */
public final class LayoutTest implements Kinds {
    public static void main(String[] args) {
        words();
        longWords();
        breaks();
        groups();
        headings();
        rules();
        code();
        quotes();
        rowsOfItems();
        numberedItems();
        apart();
        itemsParts();
        narrow();
        withoutLines();
        spacesAtTheEnd();
        Check.done();
    }

    private static Teller told() {
        return new Teller();
    }

    /** What is seen on one page that is long enough. */
    private static void seen(String what, int columns, Teller teller, String due) {
        Check.due(what, teller.seen(40, columns), due);
    }

    private static Teller paragraph(String text) {
        return told().block(PARAGRAPH, text);
    }

    private static void words() {
        seen("words", 10, paragraph("aa bb ccc dddd"), "aa bb ccc|dddd");
        seen("words that just fit", 10, paragraph("aaaa bbbbb cccc"), "aaaa bbbbb|cccc");
        seen("words one too long", 10, paragraph("aaaa bbbbbb"), "aaaa|bbbbbb");
        seen("white as one gap", 20, paragraph("\t a \n\r\t b  \n"), "a b");
        seen("not white", 20, paragraph("a\fb\u00a0c\u000bd"), "a\fb\u00a0c\u000bd");
        seen("two blocks", 8, told().block(PARAGRAPH, "a").block(PARAGRAPH, "b"), "a||b");
    }

    private static void longWords() {
        seen("just the width", 8, paragraph("abcdefgh i"), "abcdefgh|i");
        seen("just the width behind a break", 8, told().open(PARAGRAPH).say("a").br().say("abcdefgh i"), "a|abcdefgh|i");
        seen("cut", 8, paragraph("abcdefghij k"), "abcdefgh|ij k");
        seen("on lines of its own", 8, paragraph("x abcdefghij k"), "x|abcdefgh|ij k");
        seen("twice the width", 8, paragraph("x abcdefghijklmnop k"), "x|abcdefgh|ijklmnop|k");
        seen("the last piece takes what fits", 8, paragraph("abcdefghij klmno p"), "abcdefgh|ij klmno|p");
        seen("a break behind the last piece", 8, told().open(PARAGRAPH).say("abcdefghijklmnop").br().say("q"),
            "abcdefgh|ijklmnop|q");
    }

    private static void breaks() {
        seen("a break", 8, told().open(PARAGRAPH).say("a ").br().say(" b"), "a|b");
        seen("no gap", 8, told().open(PARAGRAPH).say("a").br().say("b"), "a|b");
        seen("two breaks", 8, told().open(PARAGRAPH).say("a").br().br().say("b"), "a||b");
        seen("white between breaks", 8, told().open(PARAGRAPH).say("a").br().say(" \n ").br().say("b"), "a||b");
        seen("a last break", 8, told().open(PARAGRAPH).say("a").br().end(1).block(PARAGRAPH, "b"), "a||b");
        seen("two last breaks", 8, told().open(PARAGRAPH).say("a").br().br().end(1).block(PARAGRAPH, "b"), "a|||b");
        seen("a break alone", 8, told().block(PARAGRAPH, "a").open(PARAGRAPH).br().end(1).block(PARAGRAPH, "b"), "a||||b");
        Teller first = told().open(PARAGRAPH).br().say("a");
        seen("a first break is left out", 8, first, "a");
        Check.due("but it is a line", first.desk.about(4), 2);
        Check.due("an empty one", first.desk.line(0, 0), 0);
    }

    private static void groups() {
        Teller teller = told().open(PARAGRAPH).say("a").open(GROUP).say("b c").open(GROUP).say("d").br().say("e").end(2)
            .say("f g");
        seen("a GROUP is what it holds", 20, teller, "ab cd|ef g");
        seen("a word of three texts is cut", 8,
            told().open(PARAGRAPH).say("abcd").open(GROUP).say("efgh").end(1).say("ij"), "abcdefgh|ij");
        seen("white at a GROUP's end", 20, told().open(PARAGRAPH).say("a ").open(GROUP).say(" b ").end(1).say(" c"), "a b c");
    }

    private static void headings() {
        for (int level = 1; level <= 6; level++) {
            seen("level " + level, 12, told().begin(HEADING, level).say("Ab c"), "======".substring(0, level) + " Ab c");
        }
        seen("a heading's lines", 8, told().begin(HEADING, 2).say("abc defg hi"), "== abc|defg hi");
        seen("a heading's long word", 8, told().begin(HEADING, 1).say("abcdefghi"), "=|abcdefgh|i");
        seen("a heading without words", 8, told().open(HEADING), "=");
        seen("a heading's break", 8, told().open(HEADING).br().say("a"), "=|a");
        ProsePages desk = told().block(PARAGRAPH, "x").begin(HEADING, 2).say("abc defg hi").desk;
        desk.pages(9, 8);
        int[] due = {0, 0, 1, 0, ProsePages.NONE};
        for (int k = 0; k < due.length; k++) {
            Check.due("line(" + k + ", 2)", desk.line(k, 2), due[k]);
        }
    }

    private static void rules() {
        seen("a rule", 8, told().open(RULE), "--------");
        seen("a rule", 11, told().open(RULE, RULE), "-----------||-----------");
        seen("a rule in a quote", 8, told().open(QUOTE, RULE), "> ------");
    }

    private static void code() {
        seen("lines", 10, told().block(CODE, "a  b\n c\n"), "a  b| c");
        seen("without a last 10", 10, told().block(CODE, "a\nb"), "a|b");
        seen("empty lines", 10, told().block(CODE, "a\n\n\nb\n\n").open(RULE), "a|||b|||----------");
        seen("cut", 8, told().block(CODE, "abcdefghijklmnopq\nr"), "abcdefgh|ijklmnop|q|r");
        seen("just the width", 8, told().block(CODE, "abcdefgh\nijklmnop"), "abcdefgh|ijklmnop");
        seen("just twice the width", 8, told().block(CODE, "abcdefghijklmnop\n\nq"), "abcdefgh|ijklmnop||q");
        seen("other white stays", 8, told().block(CODE, "a\tb\rc\t"), "a\tb\rc\t");
        Teller empty = told().block(CODE, "\n");
        seen("an empty line alone", 8, empty, "");
        Check.due("is a line", empty.desk.about(4), 1);
        Teller spaces = told().open(RULE).block(CODE, "abcdefgh    \n   ").open(RULE);
        seen("pieces of spaces", 8, spaces, "--------||abcdefgh||||--------");
    }

    private static void quotes() {
        seen("a quote", 8, told().open(QUOTE).block(PARAGRAPH, "abc def").block(PARAGRAPH, "g"), "> abc|> def|>|> g");
        seen("a quote in a quote", 10, told().open(QUOTE).block(PARAGRAPH, "a").open(QUOTE).block(PARAGRAPH, "bbb ccc").end(1)
            .block(PARAGRAPH, "d"), "> a|>|> > bbb|> > ccc|>|> d");
        seen("behind a quote", 8, told().open(QUOTE).block(PARAGRAPH, "a").end(1).open(RULE), "> a||--------");
        seen("empty lines in a quote", 8, told().open(QUOTE).block(CODE, "\n \na"), ">|>|> a");
    }

    private static Teller item(Teller list, String text) {
        return list.open(ITEM).say(text).end(1);
    }

    private static void rowsOfItems() {
        Teller teller = told().open(ROW);
        item(item(teller, "aa bb cc"), "d");
        seen("a row", 8, teller, "* aa bb|  cc|* d");
        seen("an empty item", 8, item(told().open(ROW, ITEM).end(1), "a"), "*|* a");
        seen("an item of white", 8, item(item(told().open(ROW), " \n"), "a"), "*|* a");
        seen("an item in an item", 12, item(told().open(ROW, ITEM, ROW), "a").open(ITEM).say("b"), "* * a|  * b");
        seen("a quote in an item", 12, told().open(ROW, ITEM, QUOTE).block(PARAGRAPH, "a").block(PARAGRAPH, "b").end(1)
            .say("c"), "* > a|  >|  > b|  c");
        seen("an item in a quote", 8, item(item(told().open(QUOTE, ROW), "aaa bbb"), "c"), "> * aaa|>   bbb|> * c");
        seen("an item's first break", 8, told().open(ROW, ITEM).br().say("a"), "*|  a");
    }

    private static void numberedItems() {
        Teller teller = told().begin(NUMBERED, 98);
        item(item(item(teller, "aa bb"), "cc dd"), "e");
        seen("numbers go on", 8, teller, "98. aa|    bb|99. cc|    dd|100. e");
        seen("from 0", 8, item(item(told().begin(NUMBERED, 0), "a"), ""), "0. a|1.");
        seen("to ten digits", 20, item(item(told().begin(NUMBERED, 999999999), "a"), "b"), "999999999. a|1000000000. b");
        seen("widths by each sign", 10, item(item(told().begin(NUMBERED, 9), "aaa bbb"), "aaa bbb"),
            "9. aaa bbb|10. aaa|    bbb");
    }

    private static void apart() {
        seen("one PARAGRAPH parts all items", 9, item(item(told().open(ROW), "a"), "b").open(ITEM).block(PARAGRAPH, "c").end(1),
            "* a||* b||* c");
        seen("it must be held directly", 9, item(told().open(ROW, ITEM, QUOTE).block(PARAGRAPH, "a").end(2), "b"),
            "* > a|* b");
        seen("each list for itself", 9, item(item(item(told().open(ROW, ITEM).block(PARAGRAPH, "a").open(ROW), "b"), "c").end(2),
            "d"), "* a||  * b|  * c||* d");
        seen("an inner list parts no outer one", 9,
            item(told().open(ROW, ITEM).say("a").open(ROW, ITEM).block(PARAGRAPH, "b").end(1).open(ITEM).say("c").end(3), "d"),
            "* a|  * b||  * c|* d");
        seen("a PARAGRAPH without lines counts nowhere", 9, item(told().open(ROW, ITEM).say("a").open(RULE)
            .block(PARAGRAPH, " ").end(1), "b"), "* a|  -------|* b");
        seen("a PARAGRAPH of a break counts", 9, item(told().open(ROW, ITEM).say("a").open(PARAGRAPH).br().end(2), "b"),
            "* a||||* b");
    }

    private static void itemsParts() {
        seen("parts without a PARAGRAPH", 9, told().open(ROW, ITEM).say("a").open(RULE).say("b c").block(CODE, "d"),
            "* a|  -------|  b c|  d");
        seen("parts with a PARAGRAPH", 9, told().open(ROW, ITEM).say("a").open(RULE).say("b").block(PARAGRAPH, "c"),
            "* a||  -------||  b||  c");
        seen("white between blocks", 9, told().open(ROW, ITEM, RULE).say(" \n").block(PARAGRAPH, "c"), "* -------||  c");
        seen("a row of inlines", 20, told().open(ROW, ITEM).say("a").open(GROUP).say("b ").end(1).br().say("c"), "* ab|  c");
        seen("a block without lines stands between", 20, told().open(ROW, ITEM).say("a").open(QUOTE).end(1).say("b"),
            "* a|  b");
    }

    private static void narrow() {
        Teller quotes = told().open(QUOTE, QUOTE, QUOTE).block(PARAGRAPH, "abcdef");
        seen("four wide at least", 8, quotes, "> > > ab|> > > ef");
        Check.due("what is beyond counts", quotes.desk.line(0, 0), 10);
        Check.due("what is beyond is not seen", quotes.desk.cell(0, 0, 8), ProsePages.NONE);
        Teller deep = told().begin(NUMBERED, 999999999).open(ITEM).begin(NUMBERED, 999999999).open(ITEM, RULE);
        seen("all beyond", 8, deep, "99999999");
        Check.due("signs and a rule", deep.desk.line(0, 0), 26);
        seen("a sign in narrow width", 8, told().open(QUOTE, QUOTE).begin(HEADING, 6), "> > ====|> > ==");
    }

    private static void withoutLines() {
        seen("nothing", 8, told(), "");
        seen("empty blocks", 8, told().open(PARAGRAPH).end(1).open(CODE).end(1).open(QUOTE, ROW).end(2).open(NUMBERED), "");
        seen("between others", 8, told().open(RULE).open(PARAGRAPH).say(" \t").end(1).open(QUOTE, QUOTE, PARAGRAPH).end(3)
            .open(ROW).end(1).open(CODE).end(1).open(RULE), "--------||--------");
        seen("in a quote", 8, told().open(QUOTE, PARAGRAPH).end(1).open(RULE).open(PARAGRAPH).end(2).open(RULE),
            "> ------||--------");
    }

    private static void spacesAtTheEnd() {
        Teller teller = told().open(QUOTE).block(CODE, "a  \n  \n b").end(1).open(ROW, ITEM).end(2).open(ROW, ITEM)
            .block(CODE, "a\n\nb");
        teller.desk.pages(40, 20);
        int[] due = {3, 1, 4, 0, 1, 0, 3, 0, 3};
        for (int k = 0; k < due.length; k++) {
            Check.due("line(" + k + ", 0)", teller.desk.line(k, 0), due[k]);
        }
    }
}
