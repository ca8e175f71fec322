/** Tells a desk its nodes in few words, and reads its pages as text. */
final class Teller implements Kinds {
    final ProsePages desk = new ProsePages();

    Teller open(int... kinds) {
        for (int kind : kinds) {
            desk.begin(kind, 1);
        }
        return this;
    }

    Teller begin(int kind, int number) {
        desk.begin(kind, number);
        return this;
    }

    Teller end(int times) {
        for (int i = 0; i < times; i++) {
            desk.end();
        }
        return this;
    }

    Teller say(String text) {
        for (int i = 0; i < text.length(); i += 4) {
            int n = Math.min(4, text.length() - i);
            desk.say(at(text, i), at(text, i + 1), at(text, i + 2), at(text, i + 3), n);
        }
        return this;
    }

    /** A block that holds a text alone. */
    Teller block(int kind, String text) {
        return begin(kind, 1).say(text).end(1);
    }

    Teller br() {
        return begin(BREAK, 1);
    }

    private static int at(String text, int i) {
        return i < text.length() ? text.charAt(i) : 0;
    }

    /** All that is seen: lines joined by |, pages by #, without spaces at a line's end. */
    String seen(int rows, int columns) {
        desk.pages(rows, columns);
        StringBuilder all = new StringBuilder();
        for (int p = 0; p < desk.about(3); p++) {
            all.append(p == 0 ? "" : "#").append(pageSeen(p));
        }
        return all.toString();
    }

    private String pageSeen(int p) {
        StringBuilder page = new StringBuilder();
        for (int r = 0; r < desk.page(p, 0); r++) {
            StringBuilder line = new StringBuilder();
            for (int c = 0; c < desk.about(6); c++) {
                line.append((char) desk.cell(p, r, c));
            }
            page.append(r == 0 ? "" : "|").append(line.toString().replaceAll(" +\\z", ""));
        }
        return page.toString();
    }
}
