import java.util.ArrayList;
import java.util.List;

/** The document a second time, in the plainest way: lists of strings, all made anew for each question. */
final class Model {
    static final int NONE = -1;
    private static final char MARK = 256;

    static final class N {
        int number;
        int kind;
        int value;
        N holder;
        final List<N> kids = new ArrayList<>();
        final StringBuilder text = new StringBuilder();
        // Where the leaves begin that are in it or behind it, in the list of all leaves.
        int leaf;
    }

    static final class L {
        String text;
        // Its leaf's place in the list of all leaves; NONE of an empty line between blocks.
        int leaf;
        int headingLines;
        int page = NONE;

        L(String text, int leaf) {
            this.text = text;
            this.leaf = leaf;
        }
    }


    List<N> nodes = new ArrayList<>();
    N hand;
    List<L> lines = null;
    List<List<Integer>> pages = new ArrayList<>();
    int rows;
    int columns;
    int[] nodePages = new int[0];
    private int leaves;

    Model() {
        clear();
    }

    void clear() {
        nodes = new ArrayList<>();
        hand = new N();
        hand.kind = NONE;
        nodes.add(hand);
        lines = null;
    }

    static String holds(int kind) {
        switch (kind) {
            case -1: case 4: return "0 1 2 3 4 5 6 ";
            case 5: case 6: return "7 ";
            case 7: return "0 1 2 3 4 5 6 8 9 10 ";
            case 0: case 1: case 8: return "8 9 10 ";
            case 3: return "10 ";
            default: return "";
        }
    }

    private static boolean may(N holder, int kind) {
        return (" " + holds(holder.kind)).contains(" " + kind + " ");
    }

    boolean isRefused() {
        int depth = 1;
        for (N n = hand; n != null; n = n.holder) {
            depth++;
        }
        return nodes.size() == 300 || depth == 13;
    }

    private N make(int kind, int value) {
        N n = new N();
        n.number = nodes.size();
        n.kind = kind;
        n.value = value;
        n.holder = hand;
        hand.kids.add(n);
        nodes.add(n);
        return n;
    }

    String begin(int kind, int number) {
        if (isRefused()) {
            return "IllegalStateException";
        }
        if (kind == 10 || !may(hand, kind) || kind == 1 && (number < 1 || number > 6)
                || kind == 6 && (number < 0 || number > 999999999)) {
            return "IllegalArgumentException";
        }
        N n = make(kind, kind == 1 || kind == 6 ? number : 0);
        if (!holds(kind).isEmpty()) {
            hand = n;
        }
        return "" + n.number;
    }

    String end() {
        if (hand.holder == null) {
            return "-1";
        }
        hand = hand.holder;
        return "" + hand.number;
    }

    int characters() {
        return nodes.stream().mapToInt(n -> n.text.length()).sum();
    }

    String say(int a, int b, int c, int d, int n) {
        if (n < 1 || n > 4 || !may(hand, 10)) {
            return "IllegalArgumentException";
        }
        N last = hand.kids.isEmpty() ? null : hand.kids.get(hand.kids.size() - 1);
        boolean isNew = last == null || last.kind != 10;
        if (characters() + n > 4000 || isNew && isRefused()) {
            return "IllegalStateException";
        }
        N text = isNew ? make(10, 0) : last;
        int[] all = {a, b, c, d};
        for (int i = 0; i < n; i++) {
            text.text.append((char) (all[i] & 255));
        }
        text.value = text.text.length();
        return "" + text.number;
    }

    String pages(int r, int c) {
        if (r < 5 || r > 40 || c < 8 || c > 60) {
            return "IllegalArgumentException";
        }
        leaves = 0;
        List<L> laid = blocks(nodes.get(0), c);
        if (laid.size() > 1500) {
            return "IllegalStateException";
        }
        lines = laid;
        rows = r;
        columns = c;
        for (L line : lines) {
            line.text = line.text.replaceAll(" +\\z", "");
        }
        fill();
        nodePages = new int[nodes.size()];
        for (N n : nodes) {
            nodePages[n.number] = pageFrom(n.leaf);
        }
        return "" + pages.size();
    }

    private int pageFrom(int leaf) {
        for (L line : lines) {
            if (line.leaf != NONE && line.leaf >= leaf && line.page != NONE) {
                return line.page;
            }
        }
        return pages.size() - 1;
    }

    private void fill() {
        pages = new ArrayList<>();
        List<Integer> open = new ArrayList<>();
        for (int k = 0; k < lines.size(); k++) {
            if (open.size() == rows) {
                open = new ArrayList<>();
            }
            int together = together(k);
            if (!open.isEmpty() && together <= rows && together > rows - open.size()) {
                open = new ArrayList<>();
            }
            if (open.isEmpty() && lines.get(k).text.isEmpty()) {
                continue;
            }
            if (open.isEmpty()) {
                pages.add(open);
            }
            open.add(k);
            lines.get(k).page = pages.size() - 1;
        }
        if (pages.isEmpty()) {
            pages.add(open);
        }
    }

    private int together(int k) {
        int heading = lines.get(k).headingLines;
        if (heading == 0) {
            return 0;
        }
        int n = heading;
        while (k + n < lines.size() && lines.get(k + n).text.isEmpty()) {
            n++;
        }
        return k + n < lines.size() ? n + 1 : n;
    }

    private static int width(int w) {
        return w < 4 ? 4 : w;
    }

    private static void join(List<L> all, List<L> more, boolean apart) {
        if (!all.isEmpty() && !more.isEmpty() && apart) {
            all.add(new L("", NONE));
        }
        all.addAll(more);
    }

    private List<L> blocks(N holder, int w) {
        holder.leaf = leaves;
        List<L> all = new ArrayList<>();
        for (N n : holder.kids) {
            join(all, block(n, w), true);
        }
        return all;
    }

    private List<L> block(N n, int w) {
        n.leaf = leaves;
        switch (n.kind) {
            case 0: return leaf(wrap(flat(n.kids, leaves), w));
            case 1: {
                List<L> all = leaf(wrap("======".substring(0, n.value) + " " + flat(n.kids, leaves), w));
                all.get(0).headingLines = all.size();
                return all;
            }
            case 2: return leaf(List.of("-".repeat(w)));
            case 3: return leaf(code(flat(n.kids, leaves), w));
            case 4: {
                List<L> all = blocks(n, width(w - 2));
                all.forEach(line -> line.text = "> " + line.text);
                return all;
            }
            default: return items(n, w);
        }
    }

    private List<L> leaf(List<String> texts) {
        List<L> all = new ArrayList<>();
        for (String text : texts) {
            all.add(new L(text, leaves));
        }
        leaves++;
        return all;
    }

    private static boolean holdsParagraph(N item) {
        return item.kids.stream().anyMatch(n -> n.kind == 0 && !wrap(flat(n.kids, 0), 60).isEmpty());
    }

    private List<L> items(N list, int w) {
        boolean apart = list.kids.stream().anyMatch(Model::holdsParagraph);
        List<L> all = new ArrayList<>();
        for (int i = 0; i < list.kids.size(); i++) {
            String sign = list.kind == 5 ? "* " : (list.value + i) + ". ";
            List<L> item = item(list.kids.get(i), width(w - sign.length()));
            for (int k = 0; k < item.size(); k++) {
                item.get(k).text = (k == 0 ? sign : " ".repeat(sign.length())) + item.get(k).text;
            }
            join(all, item, apart);
        }
        return all;
    }

    private List<L> item(N item, int w) {
        item.leaf = leaves;
        boolean apart = holdsParagraph(item);
        List<L> all = new ArrayList<>();
        List<N> row = new ArrayList<>();
        for (N n : item.kids) {
            if (n.kind >= 8) {
                row.add(n);
                continue;
            }
            join(all, rowOf(row, w), apart);
            row.clear();
            join(all, block(n, w), apart);
        }
        join(all, rowOf(row, w), apart);
        return all.isEmpty() ? leaf(List.of("")) : all;
    }

    private List<L> rowOf(List<N> row, int w) {
        return row.isEmpty() ? new ArrayList<>() : leaf(wrap(flat(row, leaves), w));
    }

    private static String flat(List<N> inlines, int leaf) {
        StringBuilder all = new StringBuilder();
        for (N n : inlines) {
            n.leaf = leaf;
            all.append(n.kind == 9 ? "" + MARK : n.kind == 10 ? n.text.toString() : flat(n.kids, leaf));
        }
        return all.toString();
    }

    private static List<String> code(String text, int w) {
        List<String> all = new ArrayList<>();
        String[] lines = text.split("\n", -1);
        for (int i = 0; i < lines.length; i++) {
            if (i == lines.length - 1 && lines[i].isEmpty()) {
                break;
            }
            String rest = lines[i];
            while (rest.length() > w) {
                all.add(rest.substring(0, w));
                rest = rest.substring(w);
            }
            all.add(rest);
        }
        return all;
    }

    private static List<String> wrap(String text, int w) {
        List<String> all = new ArrayList<>();
        String[] stretches = text.split("" + MARK, -1);
        for (int i = 0; i < stretches.length; i++) {
            List<String> some = wrapWords(stretches[i].split("[\t\n\r ]+"), w);
            if (some.isEmpty() && i < stretches.length - 1) {
                some.add("");
            }
            all.addAll(some);
        }
        return all;
    }

    private static List<String> wrapWords(String[] words, int w) {
        List<String> all = new ArrayList<>();
        for (String word : words) {
            if (word.isEmpty()) {
                continue;
            }
            String before = all.isEmpty() ? null : all.get(all.size() - 1);
            if (before != null && word.length() <= w && before.length() + 1 + word.length() <= w) {
                all.set(all.size() - 1, before + " " + word);
                continue;
            }
            String rest = word;
            while (rest.length() > w) {
                all.add(rest.substring(0, w));
                rest = rest.substring(w);
            }
            all.add(rest);
        }
        return all;
    }

    int cell(int page, int row, int column) {
        if (lines == null || page < 0 || page >= pages.size() || row < 0 || row >= rows || column < 0
                || column >= columns) {
            return NONE;
        }
        List<Integer> on = pages.get(page);
        String text = row < on.size() ? lines.get(on.get(row)).text : "";
        return column < text.length() ? text.charAt(column) : 32;
    }

    int page(int page, int what) {
        if (lines == null || page < 0 || page >= pages.size() || what < 0 || what > 1) {
            return NONE;
        }
        List<Integer> on = pages.get(page);
        return what == 0 ? on.size() : on.isEmpty() ? lines.size() : on.get(0);
    }

    int line(int k, int what) {
        if (lines == null || k < 0 || k >= lines.size() || what < 0 || what > 2) {
            return NONE;
        }
        L line = lines.get(k);
        return what == 0 ? line.text.length() : what == 1 ? line.page : line.headingLines > 0 ? 1 : 0;
    }

    int find(int node) {
        return lines == null || node < 0 || node >= nodes.size() || node >= nodePages.length ? NONE : nodePages[node];
    }

    int node(int node, int what) {
        if (node < 0 || node >= nodes.size() || what < 0 || what > 2) {
            return NONE;
        }
        N n = nodes.get(node);
        return what == 0 ? n.kind : what == 1 ? n.holder == null ? NONE : n.holder.number : n.value;
    }

    int about(int what) {
        switch (what) {
            case 0: return nodes.size();
            case 1: return characters();
            case 2: return hand.number;
            case 3: return lines == null ? 0 : pages.size();
            case 4: return lines == null ? 0 : lines.size();
            case 5: return lines == null ? 0 : rows;
            case 6: return lines == null ? 0 : columns;
            default: return NONE;
        }
    }
}
