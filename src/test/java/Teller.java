/** Tells a desk its nodes in few words, and reads its pages as text. */
final class Teller {
    static final int PARAGRAPH = 0;
    static final int HEADING = 1;
    static final int RULE = 2;
    static final int CODE = 3;
    static final int QUOTE = 4;
    static final int ROW = 5;
    static final int NUMBERED = 6;
    static final int ITEM = 7;
    static final int GROUP = 8;
    static final int BREAK = 9;
    static final int TEXT = 10;

    final ProsePages desk = new ProsePages();

    Teller begin(int... kinds) {
        for (int kind : kinds) {
            desk.begin(kind, 1);
        }
        return this;
    }

    Teller begin(int kind, int number) {
        desk.begin(kind, number);
        return this;
    }

    Teller end(int times) {
        for (int i = 0; i < times; i++) {
            desk.end();
        }
        return this;
    }

    Teller say(String text) {
        for (int i = 0; i < text.length(); i += 4) {
            int n = Math.min(4, text.length() - i);
            desk.say(at(text, i), at(text, i + 1), at(text, i + 2), at(text, i + 3), n);
        }
        return this;
    }

    /** A block that holds a text alone. */
    Teller block(int kind, String text) {
        return begin(kind).say(text).end(1);
    }

    Teller br() {
        return begin(BREAK);
    }

    private static int at(String text, int i) {
        return i < text.length() ? text.charAt(i) : 0;
    }

    /** All that is seen: lines joined by |, pages by #, without spaces at a line's end. */
    String seen(int rows, int columns) {
        desk.pages(rows, columns);
        StringBuilder all = new StringBuilder();
        for (int p = 0; p < desk.about(3); p++) {
            all.append(p == 0 ? "" : "#").append(pageSeen(p));
        }
        return all.toString();
    }

    private String pageSeen(int p) {
        StringBuilder page = new StringBuilder();
        for (int r = 0; r < desk.page(p, 0); r++) {
            StringBuilder line = new StringBuilder();
            for (int c = 0; c < desk.about(6); c++) {
                line.append((char) desk.cell(p, r, c));
            }
            page.append(r == 0 ? "" : "|").append(line.toString().replaceAll(" +\\z", ""));
        }
        return page.toString();
    }
}
