/** All that a desk answers, as one text: two desks, or one before and behind a call, can be compared by it. */
final class Whole {
    private Whole() {
    }

    static String of(ProsePages desk) {
        StringBuilder all = new StringBuilder("about");
        for (int what = -1; what <= 7; what++) {
            all.append(' ').append(desk.about(what));
        }
        for (int k = -1; k <= desk.about(0); k++) {
            all.append("\nnode ").append(k).append(':').append(desk.find(k));
            for (int what = -1; what <= 3; what++) {
                all.append(' ').append(desk.node(k, what));
            }
        }
        for (int k = -1; k <= desk.about(4); k++) {
            all.append("\nline ").append(k).append(':');
            for (int what = -1; what <= 3; what++) {
                all.append(' ').append(desk.line(k, what));
            }
        }
        for (int page = -1; page <= desk.about(3); page++) {
            all.append("\npage ").append(page).append(':');
            for (int what = -1; what <= 2; what++) {
                all.append(' ').append(desk.page(page, what));
            }
            addCells(all, desk, page);
        }
        return all.toString();
    }

    private static void addCells(StringBuilder all, ProsePages desk, int page) {
        for (int row = -1; row <= desk.about(5); row++) {
            all.append('\n');
            for (int column = -1; column <= desk.about(6); column++) {
                all.append(desk.cell(page, row, column)).append(',');
            }
        }
    }
}
