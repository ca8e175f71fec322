import java.util.Arrays;

/** A desk that lays out what is told to it, block in block, as lines of words, and these on pages. */
public final class ProsePages {
    public static final int NONE = -1;

    private static final int PARAGRAPH = 0;
    private static final int HEADING = 1;
    private static final int RULE = 2;
    private static final int CODE = 3;
    private static final int QUOTE = 4;
    private static final int ROW = 5;
    private static final int NUMBERED = 6;
    private static final int ITEM = 7;
    private static final int GROUP = 8;
    private static final int BREAK = 9;
    private static final int TEXT = 10;

    // Sets of kinds, a bit for each.
    private static final int BLOCKS = 0x7f;
    private static final int INLINES = 1 << GROUP | 1 << BREAK | 1 << TEXT;
    private static final int HOLDERS = ~(1 << RULE | 1 << BREAK | 1 << TEXT);

    private static final int MOST_NODES = 300;
    private static final int MOST_DEPTH = 12;
    private static final int MOST_CHARACTERS = 4000;
    private static final int MOST_LINES = 1500;
    private static final int MOST_LEVEL = 6;
    private static final int MOST_NUMBER = 999999999;
    private static final int LEAST_WIDTH = 4;

    // Stands for a BREAK among the characters told, which are all below it.
    private static final int BREAK_MARK = 256;

    private final Node[] nodes = new Node[MOST_NODES];
    private final Setter setter = new Setter();
    private Node body;
    private Node hand;
    private int nodeCount;
    private int characters;
    private Sheet shown = new Sheet();
    private boolean hasPages;

    public ProsePages() {
        body = new Node(0, NONE, 0, null, 0);
        hand = body;
        nodes[0] = body;
        nodeCount = 1;
    }

    public int begin(int kind, int number) throws IllegalStateException, IllegalArgumentException {
        if (isNodeRefused()) {
            throw new IllegalStateException("no room for one more node here");
        }
        if (kind < PARAGRAPH || kind > BREAK || !hand.mayHold(kind)) {
            throw new IllegalArgumentException("no such kind, or not here");
        }
        if (!isNumberOf(kind, number)) {
            throw new IllegalArgumentException("no such level or number");
        }
        Node made = addNode(kind, kind == HEADING || kind == NUMBERED ? number : 0);
        if (kind == BREAK) {
            setter.told.add(BREAK_MARK);
            made.reachTo(setter.told.size());
        }
        if (isOneOf(kind, HOLDERS)) {
            hand = made;
        }
        return made.number;
    }

    public int end() {
        if (hand.holder == null) {
            return NONE;
        }
        hand = hand.holder;
        return hand.number;
    }

    public int say(int a, int b, int c, int d, int n) throws IllegalArgumentException, IllegalStateException {
        if (n < 1 || n > 4 || !hand.mayHold(TEXT)) {
            throw new IllegalArgumentException("not 1 to 4 characters, or no text may be here");
        }
        if (characters + n > MOST_CHARACTERS) {
            throw new IllegalStateException("too many characters");
        }
        Node text = hand.last;
        if (text == null || text.kind != TEXT) {
            if (isNodeRefused()) {
                throw new IllegalStateException("no room for one more node here");
            }
            text = addNode(TEXT, 0);
        }
        addCharacters(a, b, c, d, n);
        text.value += n;
        text.reachTo(setter.told.size());
        return text.number;
    }

    public void clear() {
        setter.told.cut(0);
        characters = 0;
        body = new Node(0, NONE, 0, null, 0);
        hand = body;
        nodes[0] = body;
        nodeCount = 1;
        hasPages = false;
    }

    public int pages(int rows, int columns) throws IllegalArgumentException, IllegalStateException {
        if (rows < 5 || rows > 40 || columns < 8 || columns > 60) {
            throw new IllegalArgumentException("no such rows or columns");
        }
        Sheet draft = setter.draft;
        draft.reset(rows, columns);
        setter.layParts(body, columns);
        if (draft.isOverfull) {
            throw new IllegalStateException("too many lines");
        }
        draft.fillPages();
        setter.draft = shown;
        shown = draft;
        hasPages = true;
        placeNodes();
        return shown.pageCount();
    }

    public int cell(int page, int row, int column) {
        return hasPages ? shown.character(page, row, column) : NONE;
    }

    public int page(int page, int what) {
        if (!hasPages || page < 0 || page >= shown.pageCount()) {
            return NONE;
        }
        switch (what) {
            case 0:
                return shown.pageLines.get(page);
            case 1:
                return shown.pageFirst.get(page);
            default:
                return NONE;
        }
    }

    public int line(int k, int what) {
        if (!hasPages || k < 0 || k >= shown.lineCount()) {
            return NONE;
        }
        switch (what) {
            case 0:
                return shown.lengths.get(k);
            case 1:
                return shown.pageOf.get(k);
            case 2:
                return shown.headingLines.get(k) > 0 ? 1 : 0;
            default:
                return NONE;
        }
    }

    public int find(int node) {
        Node found = nodeAt(node);
        return found == null || !hasPages ? NONE : found.onPage;
    }

    public int node(int node, int what) {
        Node found = nodeAt(node);
        if (found == null) {
            return NONE;
        }
        switch (what) {
            case 0:
                return found.kind;
            case 1:
                return found.holder == null ? NONE : found.holder.number;
            case 2:
                return found.value;
            default:
                return NONE;
        }
    }

    public int about(int what) {
        switch (what) {
            case 0:
                return nodeCount;
            case 1:
                return characters;
            case 2:
                return hand.number;
            case 3:
                return hasPages ? shown.pageCount() : 0;
            case 4:
                return hasPages ? shown.lineCount() : 0;
            case 5:
                return hasPages ? shown.rows : 0;
            case 6:
                return hasPages ? shown.columns : 0;
            default:
                return NONE;
        }
    }

    private boolean isNodeRefused() {
        return nodeCount >= MOST_NODES || hand.depth >= MOST_DEPTH;
    }

    private Node addNode(int kind, int value) {
        Node made = new Node(nodeCount, kind, value, hand, setter.told.size());
        hand.take(made);
        if (nodeCount < nodes.length) {
            nodes[nodeCount] = made;
            nodeCount++;
        }
        return made;
    }

    private void addCharacters(int a, int b, int c, int d, int n) {
        setter.told.add(a & 255);
        if (n > 1) {
            setter.told.add(b & 255);
        }
        if (n > 2) {
            setter.told.add(c & 255);
        }
        if (n > 3) {
            setter.told.add(d & 255);
        }
        characters += n;
    }

    private Node nodeAt(int number) {
        return number >= 0 && number < nodeCount && number < nodes.length ? nodes[number] : null;
    }

    private void placeNodes() {
        for (int i = 0; i < nodeCount; i++) {
            Node node = nodeAt(i);
            if (node != null) {
                node.onPage = pageOfNode(node);
            }
        }
    }

    // An inline has no lines of its own. Its holder's page is known already: holders have lower numbers.
    private int pageOfNode(Node node) {
        Node holder = node.holder;
        if (holder != null && node.isInline() && holder.kind != ITEM) {
            return holder.onPage;
        }
        return shown.pageFrom(node.atLine);
    }

    private static boolean isNumberOf(int kind, int number) {
        if (kind == HEADING) {
            return number >= 1 && number <= MOST_LEVEL;
        }
        return kind != NUMBERED || number >= 0 && number <= MOST_NUMBER;
    }

    private static boolean isOneOf(int kind, int kinds) {
        return kind >= 0 && kind <= TEXT && (kinds >> kind & 1) == 1;
    }

    private static boolean isWhite(int character) {
        return character == 9 || character == 10 || character == 13 || character == 32;
    }

    /** A row of numbers that grows, and has an answer for every index. */
    private static final class Row {
        private int[] numbers = new int[16];
        private int size;

        int size() {
            return size;
        }

        int get(int index) {
            return index >= 0 && index < size && index < numbers.length ? numbers[index] : NONE;
        }

        void set(int index, int number) {
            if (index >= 0 && index < size && index < numbers.length) {
                numbers[index] = number;
            }
        }

        void add(int number) {
            if (size >= numbers.length) {
                numbers = Arrays.copyOf(numbers, size * 2);
            }
            numbers[size] = number;
            size++;
        }

        void addAll(Row other) {
            int grown = size + other.size;
            if (grown > numbers.length) {
                numbers = Arrays.copyOf(numbers, grown * 2);
            }
            System.arraycopy(other.numbers, 0, numbers, size, other.size);
            size = grown;
        }

        void cut(int length) {
            if (length >= 0 && length < size) {
                size = length;
            }
        }
    }

    /** A node, and the chain of those that it holds. */
    private static final class Node {
        final int number;
        final int kind;
        final Node holder;
        final int depth;
        // What is told in a node lies in one stretch, as it is told in the nodes' order.
        final int from;
        int to;
        int value;
        Node first;
        Node last;
        Node next;
        int atLine;
        int onPage = NONE;

        Node(int number, int kind, int value, Node holder, int from) {
            this.number = number;
            this.kind = kind;
            this.value = value;
            this.holder = holder;
            this.depth = holder == null ? 1 : holder.depth + 1;
            this.from = from;
            this.to = from;
        }

        boolean isInline() {
            return isOneOf(kind, INLINES);
        }

        boolean mayHold(int other) {
            switch (kind) {
                case NONE:
                case QUOTE:
                    return isOneOf(other, BLOCKS);
                case ROW:
                case NUMBERED:
                    return other == ITEM;
                case ITEM:
                    return isOneOf(other, BLOCKS | INLINES);
                case PARAGRAPH:
                case HEADING:
                case GROUP:
                    return isOneOf(other, INLINES);
                case CODE:
                    return other == TEXT;
                default:
                    return false;
            }
        }

        void take(Node made) {
            if (last == null) {
                first = made;
            } else {
                last.next = made;
            }
            last = made;
        }

        void reachTo(int end) {
            for (Node open = this; open != null; open = open.holder) {
                open.to = end;
            }
        }

        // The last of the inlines that follow one another from here on; a block is alone.
        Node lastOfPart() {
            Node end = this;
            while (isInline() && end.next != null && end.next.isInline()) {
                end = end.next;
            }
            return end;
        }
    }

    /** Lines, and the pages that they come to. */
    private static final class Sheet {
        final Row characters = new Row();
        final Row starts = new Row();
        final Row lengths = new Row();
        final Row pageOf = new Row();
        // How many lines the HEADING has that begins with a line, or 0.
        final Row headingLines = new Row();
        // 1 for the empty lines between blocks, where no node is ever found.
        final Row between = new Row();
        final Row pageFirst = new Row();
        final Row pageLines = new Row();
        int rows;
        int columns;
        boolean isOverfull;

        int lineCount() {
            return starts.size();
        }

        int pageCount() {
            return pageFirst.size();
        }

        void reset(int newRows, int newColumns) {
            characters.cut(0);
            starts.cut(0);
            lengths.cut(0);
            pageOf.cut(0);
            headingLines.cut(0);
            between.cut(0);
            pageFirst.cut(0);
            pageLines.cut(0);
            rows = newRows;
            columns = newColumns;
            isOverfull = false;
        }

        void addLine(Row ahead, Row content, int isBetween) {
            if (starts.size() >= MOST_LINES) {
                isOverfull = true;
                return;
            }
            int start = characters.size();
            characters.addAll(ahead);
            characters.addAll(content);
            int end = characters.size();
            while (end > start && characters.get(end - 1) == ' ') {
                end--;
            }
            characters.cut(end);
            starts.add(start);
            lengths.add(end - start);
            pageOf.add(NONE);
            headingLines.add(0);
            between.add(isBetween);
        }

        void fillPages() {
            int used = 0;
            for (int k = 0; k < lineCount(); k++) {
                if (used >= rows || used > 0 && isPageEndedBy(k, used)) {
                    used = 0;
                }
                if (used == 0 && lengths.get(k) == 0) {
                    continue;
                }
                if (used == 0) {
                    pageFirst.add(k);
                    pageLines.add(0);
                }
                used++;
                pageOf.set(k, pageCount() - 1);
                pageLines.set(pageCount() - 1, used);
            }
            if (pageCount() == 0) {
                pageFirst.add(lineCount());
                pageLines.add(0);
            }
        }

        // A heading goes to the next page if what must stay with it fits there but not here.
        private boolean isPageEndedBy(int k, int used) {
            int heading = headingLines.get(k);
            if (heading <= 0) {
                return false;
            }
            int behind = k + heading;
            while (behind < lineCount() && lengths.get(behind) == 0) {
                behind++;
            }
            int needed = Math.min(behind + 1, lineCount()) - k;
            return needed <= rows && needed > rows - used;
        }

        int pageFrom(int line) {
            for (int k = line; k < lineCount(); k++) {
                if (between.get(k) == 0 && pageOf.get(k) != NONE) {
                    return pageOf.get(k);
                }
            }
            return pageCount() - 1;
        }

        int character(int page, int row, int column) {
            if (page < 0 || page >= pageCount() || row < 0 || row >= rows || column < 0 || column >= columns) {
                return NONE;
            }
            if (row >= pageLines.get(page)) {
                return ' ';
            }
            int k = pageFirst.get(page) + row;
            return column < lengths.get(k) ? characters.get(starts.get(k) + column) : ' ';
        }
    }

    /** Sets what nodes hold as the lines of a draft. */
    private static final class Setter {
        // The characters of all texts and the marks of all breaks, in the order of the nodes.
        final Row told = new Row();
        // Another sheet than the shown one, so that a refused call leaves that as it was.
        Sheet draft = new Sheet();
        // What comes ahead of the next line, and of those behind it: a sign comes but once.
        private final Row ahead = new Row();
        private final Row aheadLater = new Row();
        private final Row word = new Row();
        private final Row content = new Row();

        // Goes no deeper than nodes stand in one another, which begin() keeps to twelve.
        void layParts(Node holder, int width) {
            int line = draft.lineCount();
            boolean isLoose = holder.kind != ITEM || holdsParagraph(holder);
            Node part = holder.first;
            while (part != null) {
                Node last = part.lastOfPart();
                if (isLoose && draft.lineCount() > line && hasLines(part, last)) {
                    putBetween();
                }
                layPart(part, last, width);
                part = last.next;
            }
        }

        private void layPart(Node part, Node last, int width) {
            for (Node node = part; node != null && node != last.next; node = node.next) {
                node.atLine = draft.lineCount();
            }
            switch (part.kind) {
                case HEADING:
                    addHeadingSign(part.value, width);
                    layWords(part.from, part.to, width);
                    draft.headingLines.set(part.atLine, draft.lineCount() - part.atLine);
                    break;
                case RULE:
                    layRule(width);
                    break;
                case CODE:
                    layCode(part, width);
                    break;
                case QUOTE:
                    layQuote(part, width);
                    break;
                case ROW:
                case NUMBERED:
                    layItems(part, width);
                    break;
                default:
                    layWords(part.from, last.to, width);
                    break;
            }
        }

        private void addHeadingSign(int level, int width) {
            for (int i = 0; i < level; i++) {
                addLetter('=', width);
            }
            endWord(width);
        }

        private void layRule(int width) {
            for (int i = 0; i < width; i++) {
                content.add('-');
            }
            putLine();
        }

        // A line is cut only when one more character comes, so that none of just the width leaves an empty rest.
        private void layCode(Node code, int width) {
            for (int i = code.from; i < code.to; i++) {
                int character = told.get(i);
                if (character == 10) {
                    putLine();
                } else {
                    if (content.size() >= width) {
                        putLine();
                    }
                    content.add(character);
                }
            }
            if (content.size() > 0) {
                putLine();
            }
        }

        private void layQuote(Node quote, int width) {
            int margin = ahead.size();
            addAhead('>', '>');
            addAhead(' ', ' ');
            layParts(quote, narrower(width, 2));
            cutAhead(margin);
        }

        private void layItems(Node list, int width) {
            boolean isLoose = false;
            for (Node item = list.first; item != null; item = item.next) {
                isLoose = isLoose || holdsParagraph(item);
            }
            int number = list.value;
            for (Node item = list.first; item != null; item = item.next) {
                if (isLoose && item != list.first) {
                    putBetween();
                }
                int line = draft.lineCount();
                int margin = ahead.size();
                item.atLine = line;
                addSign(list.kind, number);
                layParts(item, narrower(width, ahead.size() - margin));
                if (draft.lineCount() == line) {
                    putLine();
                }
                cutAhead(margin);
                number++;
            }
        }

        private void layWords(int from, int to, int width) {
            for (int i = from; i < to; i++) {
                int character = told.get(i);
                if (character == BREAK_MARK) {
                    endWord(width);
                    putLine();
                } else if (isWhite(character)) {
                    endWord(width);
                } else {
                    addLetter(character, width);
                }
            }
            endWord(width);
            if (content.size() > 0) {
                putLine();
            }
        }

        // A word shows that it is too long by a letter beyond the width. The piece before that
        // fills a line, so that nothing can come behind it there.
        private void addLetter(int letter, int width) {
            if (word.size() >= width) {
                if (content.size() > 0) {
                    putLine();
                }
                content.addAll(word);
                word.cut(0);
            }
            word.add(letter);
        }

        private void endWord(int width) {
            if (word.size() == 0) {
                return;
            }
            if (content.size() > 0 && content.size() + 1 + word.size() > width) {
                putLine();
            }
            if (content.size() > 0) {
                content.add(' ');
            }
            content.addAll(word);
            word.cut(0);
        }

        private void putLine() {
            draft.addLine(ahead, content, 0);
            content.cut(0);
            for (int i = 0; i < ahead.size(); i++) {
                ahead.set(i, aheadLater.get(i));
            }
        }

        private void putBetween() {
            draft.addLine(ahead, content, 1);
        }

        private void addSign(int listKind, int number) {
            if (listKind == ROW) {
                addAhead('*', ' ');
            } else {
                addDigits(number);
                addAhead('.', ' ');
            }
            addAhead(' ', ' ');
        }

        private void addDigits(int number) {
            int unit = 1000000000;
            while (unit > 1 && unit > number) {
                unit /= 10;
            }
            while (unit > 0) {
                addAhead('0' + number / unit % 10, ' ');
                unit /= 10;
            }
        }

        private void addAhead(int character, int later) {
            ahead.add(character);
            aheadLater.add(later);
        }

        private void cutAhead(int margin) {
            ahead.cut(margin);
            aheadLater.cut(margin);
        }

        private boolean hasLines(Node part, Node last) {
            switch (part.kind) {
                case HEADING:
                case RULE:
                    return true;
                case CODE:
                    return part.to > part.from;
                case QUOTE:
                    return holdsLines(part);
                case ROW:
                case NUMBERED:
                    return part.first != null;
                default:
                    return hasWords(part.from, last.to);
            }
        }

        private boolean holdsLines(Node quote) {
            for (Node block = quote.first; block != null; block = block.next) {
                if (hasLines(block, block)) {
                    return true;
                }
            }
            return false;
        }

        // A PARAGRAPH without lines counts nowhere, so it does not part the items either.
        private boolean holdsParagraph(Node item) {
            for (Node part = item.first; part != null; part = part.next) {
                if (part.kind == PARAGRAPH && hasWords(part.from, part.to)) {
                    return true;
                }
            }
            return false;
        }

        // A BREAK's mark is not white, so it counts here as words do.
        private boolean hasWords(int from, int to) {
            for (int i = from; i < to; i++) {
                if (!isWhite(told.get(i))) {
                    return true;
                }
            }
            return false;
        }

        private static int narrower(int width, int by) {
            return Math.max(LEAST_WIDTH, width - by);
        }
    }
}
