import java.util.function.Consumer;

/** The boundary cases of promises 1 to 5, 11 and 12, a test for each sentence that names one. */
public final class TellingEdgesTest implements Kinds {
    private static final int NONE = ProsePages.NONE;
    private static final int LEAST = Integer.MIN_VALUE;
    private static final int MOST = Integer.MAX_VALUE;

    public static void main(String[] args) {
        termsMostNodes();
        termsMostDepthOfBlocks();
        termsMostDepthOfInlines();
        termsMostCharacters();
        termsLevels();
        termsNumbers();
        termsWhatMayHoldWhat();
        termsAtHandIfItCanHoldSomething();
        promise1EveryQuestion();
        promise1AskingChangesNothing();
        promise2NumberOfOthersDoesNotCount();
        promise2NoSuchKind();
        promise2FullIsLookedAtFirst();
        promise2DeepIsLookedAtFirst();
        promise2RefusedBeginsLeaveNothing();
        promise3BodyAtHand();
        promise3OutOfTheDeepest();
        promise4HowMany();
        promise4WhereNoTextMayBe();
        promise4ArgumentsAreLookedAtFirst();
        promise4LowestBytes();
        promise4LowestBytesAreWhite();
        promise4OthersThanTheFirstDoNotCount();
        promise4CharactersOfAllTexts();
        promise4NewTextWhenFull();
        promise4NewTextWhenDeep();
        promise4RefusedSaysLeaveNothing();
        promise5AllGoes();
        promise5NothingOfBeforeShows();
        promise5FullAgain();
        promise11Body();
        promise11NoSuchNode();
        promise11AnotherWhat();
        promise11ValuesOfEachKind();
        promise12WithoutPages();
        promise12AnotherWhat();
        Check.done();
    }

    private static Teller told() {
        return new Teller();
    }

    private static Teller quotes(int n) {
        Teller teller = told();
        for (int i = 0; i < n; i++) {
            teller.open(QUOTE);
        }
        return teller;
    }

    /** A desk of so many nodes, with a PARAGRAPH at hand whose last node is a BREAK. */
    private static ProsePages ofNodes(int n) {
        ProsePages desk = told().open(PARAGRAPH).desk;
        while (desk.about(0) < n) {
            desk.begin(BREAK, 0);
        }
        return desk;
    }

    /** A desk of so many characters in one TEXT, with its PARAGRAPH at hand; more calls than 512 for the most of them. */
    private static ProsePages ofCharacters(int n) {
        return told().open(PARAGRAPH).say("x".repeat(n)).desk;
    }

    private static int sayA(ProsePages desk) {
        return desk.say('a', 0, 0, 0, 1);
    }

    private static void termsMostNodes() {
        ProsePages desk = ofNodes(299);
        Check.due("the 300th node", desk.begin(GROUP, 0), 299);
        Check.due("nodes", desk.about(0), 300);
        Check.refusedByState("the 301st node", desk, () -> desk.begin(GROUP, 0));
        Check.refusedByState("the 301st node as a TEXT", desk, () -> sayA(desk));
        desk.end();
        desk.end();
        Check.refusedByState("the 301st node in the body", desk, () -> desk.begin(RULE, 0));
    }

    private static void termsMostDepthOfBlocks() {
        for (int kind : new int[] {PARAGRAPH, HEADING, RULE, CODE, QUOTE, ROW, NUMBERED}) {
            ProsePages twelfth = quotes(10).desk;
            Check.due("kind " + kind + " as the 12th", twelfth.begin(kind, 1), 11);
            ProsePages thirteenth = quotes(11).desk;
            Check.refusedByState("kind " + kind + " as the 13th", thirteenth, () -> thirteenth.begin(kind, 1));
        }
        ProsePages list = quotes(9).open(ROW).desk;
        Check.due("an ITEM as the 12th", list.begin(ITEM, 0), 11);
        ProsePages deepList = quotes(10).open(ROW).desk;
        Check.refusedByState("an ITEM as the 13th", deepList, () -> deepList.begin(ITEM, 0));
    }

    private static void termsMostDepthOfInlines() {
        Teller teller = told().open(PARAGRAPH);
        for (int i = 0; i < 9; i++) {
            teller.open(GROUP);
        }
        ProsePages desk = teller.desk;
        Check.due("a BREAK as the 12th", desk.begin(BREAK, 0), 11);
        Check.due("a TEXT as the 12th", sayA(desk), 12);
        Check.due("a GROUP as the 12th", desk.begin(GROUP, 0), 13);
        Check.refusedByState("a BREAK as the 13th", desk, () -> desk.begin(BREAK, 0));
        Check.refusedByState("a GROUP as the 13th", desk, () -> desk.begin(GROUP, 0));
        Check.refusedByState("a TEXT as the 13th", desk, () -> sayA(desk));
        desk.end();
        Check.due("a TEXT beside it", sayA(desk), 14);
    }

    private static void termsMostCharacters() {
        ProsePages desk = ofCharacters(3999);
        Check.refusedByState("two too many for the last", desk, () -> desk.say('a', 'b', 0, 0, 2));
        Check.refusedByState("four too many for the last", desk, () -> desk.say('a', 'b', 'c', 'd', 4));
        Check.due("the 4000th", sayA(desk), 2);
        Check.due("characters", desk.about(1), 4000);
        Check.refusedByState("the 4001st", desk, () -> sayA(desk));
        ProsePages four = ofCharacters(3996);
        Check.due("four up to the 4000th", four.say('a', 'b', 'c', 'd', 4), 2);
        Check.due("characters", four.about(1), 4000);
    }

    private static void termsLevels() {
        for (int level = 1; level <= 6; level++) {
            ProsePages desk = told().desk;
            Check.due("level " + level, desk.begin(HEADING, level), 1);
            Check.due("level " + level + " is told", desk.node(1, 2), level);
        }
        for (int level : new int[] {0, 7, -1, LEAST, MOST, 257}) {
            ProsePages desk = told().desk;
            Check.refusedByArgument("level " + level, desk, () -> desk.begin(HEADING, level));
        }
    }

    private static void termsNumbers() {
        for (int number : new int[] {0, 1, 999999998, 999999999}) {
            ProsePages desk = told().desk;
            Check.due("from " + number, desk.begin(NUMBERED, number), 1);
            Check.due("from " + number + " is told", desk.node(1, 2), number);
        }
        for (int number : new int[] {-1, 1000000000, LEAST, MOST}) {
            ProsePages desk = told().desk;
            Check.refusedByArgument("from " + number, desk, () -> desk.begin(NUMBERED, number));
        }
    }

    /** A desk with a node of a kind at hand, or with the body for NONE. */
    private static ProsePages at(int kind) {
        if (kind == NONE) {
            return told().desk;
        }
        return (kind == ITEM ? told().open(ROW, ITEM) : kind == GROUP ? told().open(HEADING, GROUP) : told().open(kind)).desk;
    }

    private static void termsWhatMayHoldWhat() {
        int[] holders = {NONE, PARAGRAPH, HEADING, CODE, QUOTE, ROW, NUMBERED, ITEM, GROUP};
        String[] held = {"0123456", "89", "89", "", "0123456", "7", "7", "012345689", "89"};
        for (int h = 0; h < holders.length; h++) {
            for (int kind = PARAGRAPH; kind <= BREAK; kind++) {
                int asked = kind;
                ProsePages desk = at(holders[h]);
                int inside = desk.about(2);
                String what = "kind " + kind + " in kind " + holders[h];
                if (held[h].indexOf('0' + kind) < 0) {
                    Check.refusedByArgument(what, desk, () -> desk.begin(asked, 1));
                } else {
                    int made = desk.begin(kind, 1);
                    Check.due(what, made, inside + 1);
                    Check.due(what + " is held there", desk.node(made, 1), inside);
                    Check.due(what + " is of its kind", desk.node(made, 0), kind);
                }
            }
        }
    }

    private static void termsAtHandIfItCanHoldSomething() {
        for (int kind : new int[] {PARAGRAPH, HEADING, CODE, QUOTE, ROW, NUMBERED}) {
            ProsePages desk = told().open(kind).desk;
            Check.due("kind " + kind + " is at hand", desk.about(2), 1);
        }
        Check.due("a RULE is not at hand", told().open(RULE).desk.about(2), 0);
        Check.due("a BREAK is not at hand", told().open(PARAGRAPH, BREAK).desk.about(2), 1);
        Check.due("a TEXT is not at hand", told().open(CODE).say("a").desk.about(2), 1);
        Check.due("an ITEM is at hand", told().open(ROW, ITEM).desk.about(2), 2);
        Check.due("a GROUP is at hand", told().open(PARAGRAPH, GROUP).desk.about(2), 2);
    }

    private static void promise1EveryQuestion() {
        ProsePages desk = new ProsePages();
        int[] about = {NONE, 1, 0, 0, 0, 0, 0, 0, NONE};
        for (int what = -1; what <= 7; what++) {
            Check.due("about(" + what + ")", desk.about(what), about[what + 1]);
        }
        for (int k : new int[] {LEAST, -1, 0, 1, 299, 300, MOST}) {
            for (int what = -1; what <= 3; what++) {
                Check.due("page(" + k + ", " + what + ")", desk.page(k, what), NONE);
                Check.due("line(" + k + ", " + what + ")", desk.line(k, what), NONE);
                Check.due("node(" + k + ", " + what + ")", desk.node(k, what), k == 0 && what == 2 ? 0 : NONE);
                Check.due("cell(" + k + ", " + what + ", 0)", desk.cell(k, what, 0), NONE);
            }
            Check.due("find(" + k + ")", desk.find(k), NONE);
        }
        Check.due("end()", desk.end(), NONE);
    }

    private static void promise1AskingChangesNothing() {
        ProsePages asked = new ProsePages();
        Check.due("asked twice", Whole.of(asked), Whole.of(asked));
        Check.due("the first node then", asked.begin(QUOTE, 0), 1);
        Check.due("pages of a new object", new ProsePages().pages(5, 8), 1);
    }

    private static void promise2NumberOfOthersDoesNotCount() {
        int[][] ways = {{PARAGRAPH}, {RULE}, {CODE}, {QUOTE}, {ROW}, {ROW, ITEM}, {PARAGRAPH, GROUP}, {PARAGRAPH, BREAK}};
        for (int[] way : ways) {
            for (int number : new int[] {LEAST, -1, 0, 7, 1000000000, MOST}) {
                ProsePages desk = new ProsePages();
                for (int kind : way) {
                    desk.begin(kind, number);
                }
                Check.due("a number " + number + " for kind " + way[way.length - 1], desk.about(0), 1 + way.length);
                Check.due("is not kept", desk.node(way.length, 2), 0);
            }
        }
    }

    private static void promise2NoSuchKind() {
        for (int holder : new int[] {NONE, PARAGRAPH, HEADING, CODE, QUOTE, ROW, NUMBERED, ITEM, GROUP}) {
            for (int kind : new int[] {-1, 10, 11, 32, 33, 42, 256, LEAST, MOST}) {
                ProsePages desk = at(holder);
                Check.refusedByArgument("kind " + kind + " in kind " + holder, desk, () -> desk.begin(kind, 1));
            }
        }
    }

    private static final int[][] WRONG = {{-1, 0}, {10, 0}, {11, 0}, {ITEM, 0}, {GROUP, 0}, {HEADING, 0}, {HEADING, 7},
        {NUMBERED, -1}, {NUMBERED, 1000000000}, {LEAST, LEAST}, {MOST, MOST}};

    private static void promise2FullIsLookedAtFirst() {
        ProsePages full = ofNodes(300);
        full.end();
        ProsePages free = ofNodes(299);
        free.end();
        for (int[] wrong : WRONG) {
            String what = "begin(" + wrong[0] + ", " + wrong[1] + ")";
            Check.refusedByState(what + " with 300 nodes", full, () -> full.begin(wrong[0], wrong[1]));
            Check.refusedByArgument(what + " with 299 nodes", free, () -> free.begin(wrong[0], wrong[1]));
        }
    }

    private static void promise2DeepIsLookedAtFirst() {
        ProsePages deep = quotes(11).desk;
        ProsePages free = quotes(10).desk;
        for (int[] wrong : WRONG) {
            String what = "begin(" + wrong[0] + ", " + wrong[1] + ")";
            Check.refusedByState(what + " as the 13th", deep, () -> deep.begin(wrong[0], wrong[1]));
            Check.refusedByArgument(what + " as the 12th", free, () -> free.begin(wrong[0], wrong[1]));
        }
        ProsePages code = quotes(10).open(CODE).desk;
        Check.refusedByState("in a CODE, which holds none", code, () -> code.begin(PARAGRAPH, 0));
    }

    /** Two desks are told the same, one of them with refused calls between: all that they answer is the same. */
    private static void leavesNothing(String what, Consumer<Teller> first, Consumer<ProsePages> refused, Consumer<Teller> then) {
        Teller plain = told();
        Teller other = told();
        first.accept(plain);
        first.accept(other);
        refused.accept(other.desk);
        then.accept(plain);
        then.accept(other);
        plain.desk.pages(6, 9);
        other.desk.pages(6, 9);
        Check.due(what, Whole.of(other.desk), Whole.of(plain.desk));
    }

    private static void promise2RefusedBeginsLeaveNothing() {
        leavesNothing("refused for their arguments", t -> t.open(ROW, ITEM).say("ab"), desk -> {
            for (int[] wrong : new int[][] {{ITEM, 0}, {10, 0}, {-1, 0}, {HEADING, 0}, {NUMBERED, -1}}) {
                Check.answer(() -> desk.begin(wrong[0], wrong[1]));
            }
        }, t -> t.say("cd e").open(RULE).say("f").end(2).open(RULE));
        leavesNothing("refused in the deep", t -> {
            for (int i = 0; i < 11; i++) {
                t.open(QUOTE);
            }
        }, desk -> {
            for (int kind = -1; kind <= 11; kind++) {
                int asked = kind;
                Check.answer(() -> desk.begin(asked, 1));
            }
        }, t -> t.end(2).block(PARAGRAPH, "ab").end(4).open(RULE));
    }

    private static void promise3BodyAtHand() {
        ProsePages desk = told().block(PARAGRAPH, "a").desk;
        desk.pages(5, 8);
        String before = Whole.of(desk);
        for (int i = 0; i < 3; i++) {
            Check.due("end() of the body", desk.end(), NONE);
        }
        Check.due("all then", Whole.of(desk), before);
        Check.due("a node then", desk.begin(QUOTE, 0), 3);
        Check.due("is held by the body", desk.node(3, 1), 0);
        Check.due("and is ended", desk.end(), 0);
        Check.due("the body is not", desk.end(), NONE);
    }

    private static void promise3OutOfTheDeepest() {
        ProsePages desk = quotes(11).desk;
        for (int holder = 10; holder >= 0; holder--) {
            Check.due("end() to " + holder, desk.end(), holder);
            Check.due("at hand", desk.about(2), holder);
        }
        Check.due("end() of the body", desk.end(), NONE);
        Check.due("nodes stay", desk.about(0), 12);
        ProsePages beside = told().open(QUOTE, RULE).desk;
        Check.due("a RULE is not ended, the QUOTE is", beside.end(), 0);
    }

    private static void promise4HowMany() {
        for (int n = 1; n <= 4; n++) {
            ProsePages desk = told().open(PARAGRAPH).desk;
            Check.due("a new TEXT of " + n, desk.say('a', 'b', 'c', 'd', n), 2);
            Check.due("its characters", desk.node(2, 2), n);
            Check.due("all characters", desk.about(1), n);
        }
        for (int n : new int[] {0, 5, -1, LEAST, MOST, 257, 260}) {
            ProsePages none = told().open(PARAGRAPH).desk;
            Check.refusedByArgument("a new TEXT of " + n, none, () -> none.say('a', 'b', 'c', 'd', n));
            ProsePages more = told().open(PARAGRAPH).say("xy").desk;
            Check.refusedByArgument(n + " more", more, () -> more.say('a', 'b', 'c', 'd', n));
        }
    }

    private static void promise4WhereNoTextMayBe() {
        for (int kind : new int[] {NONE, QUOTE, ROW, NUMBERED}) {
            ProsePages desk = at(kind);
            Check.refusedByArgument("a TEXT in kind " + kind, desk, () -> sayA(desk));
        }
        for (int kind : new int[] {PARAGRAPH, HEADING, CODE, ITEM, GROUP}) {
            ProsePages desk = at(kind);
            int inside = desk.about(2);
            Check.due("a TEXT in kind " + kind, sayA(desk), inside + 1);
            Check.due("is held there", desk.node(inside + 1, 1), inside);
            Check.due("is a TEXT", desk.node(inside + 1, 0), 10);
        }
        ProsePages behind = told().open(PARAGRAPH).say("a").end(1).desk;
        Check.refusedByArgument("a TEXT behind a PARAGRAPH's end", behind, () -> sayA(behind));
    }

    private static void promise4ArgumentsAreLookedAtFirst() {
        ProsePages characters = ofCharacters(4000);
        Check.refusedByArgument("n with 4000 characters", characters, () -> characters.say('a', 0, 0, 0, 5));
        characters.end();
        Check.refusedByArgument("the place with 4000 characters", characters, () -> sayA(characters));
        ProsePages nodes = ofNodes(300);
        Check.refusedByArgument("n with 300 nodes", nodes, () -> nodes.say('a', 0, 0, 0, 0));
        nodes.end();
        Check.refusedByArgument("the place with 300 nodes", nodes, () -> sayA(nodes));
        ProsePages deep = quotes(11).desk;
        Check.refusedByArgument("the place in the deep", deep, () -> sayA(deep));
        ProsePages deepText = quotes(10).open(PARAGRAPH).desk;
        Check.refusedByArgument("n in the deep", deepText, () -> deepText.say('a', 0, 0, 0, -1));
    }

    private static void promise4LowestBytes() {
        int[] told = {0, 255, 256, -1, -256, -255, LEAST, MOST, 0x80, 0x1ff, 0x12345678, -129};
        int[] due = {0, 255, 0, 255, 0, 1, 0, 255, 128, 255, 0x78, 127};
        for (int i = 0; i < told.length; i++) {
            ProsePages desk = told().open(CODE).desk;
            int x = told[i];
            desk.say(x, x, x, x, 4);
            desk.say('.', 0, 0, 0, 1);
            desk.pages(5, 8);
            for (int column = 0; column < 4; column++) {
                Check.due("the lowest byte of " + x + ", argument " + column, desk.cell(0, 0, column), due[i]);
            }
        }
    }

    private static void promise4LowestBytesAreWhite() {
        for (int high : new int[] {0x100, 0x7fffff00, 0x80000000, 0xffffff00}) {
            for (int white : new int[] {9, 10, 13, 32}) {
                Teller teller = told().open(PARAGRAPH);
                teller.desk.say('a', high | white, 'b', 0, 3);
                Check.due("a gap of " + (high | white), teller.seen(5, 8), "a b");
            }
            Teller code = told().open(CODE);
            code.desk.say('a', high | 10, 'b', high | 10, 4);
            Check.due("lines by " + (high | 10), code.seen(5, 8), "a|b");
        }
    }

    private static void promise4OthersThanTheFirstDoNotCount() {
        for (int n = 1; n <= 3; n++) {
            Teller teller = told().open(CODE);
            teller.desk.say('a', n > 1 ? 'b' : LEAST, n > 2 ? 'c' : MOST, -1, n);
            teller.desk.say('z', -1, -1, -1, 1);
            Check.due("the first " + n, teller.seen(5, 8), "abc".substring(0, n) + "z");
        }
    }

    private static void promise4CharactersOfAllTexts() {
        Teller teller = told().open(PARAGRAPH).say("x".repeat(1500)).end(1).open(CODE).say("x".repeat(1500)).end(1)
            .open(HEADING, BREAK).say("x".repeat(999));
        ProsePages desk = teller.desk;
        Check.refusedByState("too many in all", desk, () -> desk.say('a', 'b', 0, 0, 2));
        teller.open(GROUP);
        Check.refusedByState("too many in a new TEXT, which is none then", desk, () -> desk.say('a', 'b', 0, 0, 2));
        Check.due("the last one in a new TEXT", sayA(desk), desk.about(0) - 1);
        Check.due("characters", desk.about(1), 4000);
        teller.open(BREAK);
        Check.refusedByState("a new TEXT", desk, () -> sayA(desk));
        Check.due("a node has no characters", desk.begin(BREAK, 0), desk.about(0) - 1);
    }

    private static void promise4NewTextWhenFull() {
        ProsePages desk = ofNodes(299);
        Check.due("the 300th node", sayA(desk), 299);
        Check.due("the same TEXT with 300 nodes", desk.say('b', 'c', 'd', 'e', 4), 299);
        Check.due("its characters", desk.node(299, 2), 5);
        ProsePages full = ofNodes(300);
        Check.refusedByState("a TEXT behind a BREAK with 300 nodes", full, () -> sayA(full));
        Teller open = told().open(PARAGRAPH).say("a");
        while (open.desk.about(0) < 300) {
            open.open(GROUP).end(1);
        }
        Check.refusedByState("a TEXT behind a GROUP with 300 nodes", open.desk, () -> sayA(open.desk));
    }

    private static void promise4NewTextWhenDeep() {
        for (int kind : new int[] {PARAGRAPH, HEADING, CODE}) {
            ProsePages deep = quotes(10).open(kind).desk;
            Check.refusedByState("a TEXT as the 13th in kind " + kind, deep, () -> sayA(deep));
            ProsePages free = quotes(9).open(kind).desk;
            Check.due("a TEXT as the 12th in kind " + kind, sayA(free), 11);
            Check.due("and more of it", sayA(free), 11);
        }
        ProsePages item = quotes(9).open(ROW, ITEM).desk;
        Check.refusedByState("a TEXT as the 13th in an ITEM", item, () -> sayA(item));
    }

    private static void promise4RefusedSaysLeaveNothing() {
        leavesNothing("refused for their arguments", t -> t.open(PARAGRAPH).say("ab"), desk -> {
            Check.answer(() -> desk.say('x', 'y', 'z', ' ', 0));
            Check.answer(() -> desk.say('x', 'y', 'z', ' ', 5));
        }, t -> t.say("cd e").end(1).open(RULE));
        leavesNothing("refused in the body", t -> t.block(PARAGRAPH, "ab"), desk -> Check.answer(() -> sayA(desk)),
            t -> t.block(CODE, "c"));
        leavesNothing("refused in the deep", t -> {
            for (int i = 0; i < 10; i++) {
                t.open(QUOTE);
            }
            t.open(PARAGRAPH);
        }, desk -> Check.answer(() -> sayA(desk)), t -> t.end(2).block(PARAGRAPH, "b c").end(6).open(RULE));
        leavesNothing("refused for 300 nodes", t -> {
            t.open(PARAGRAPH).say("a");
            while (t.desk.about(0) < 300) {
                t.br();
            }
        }, desk -> Check.answer(() -> sayA(desk)), t -> t.end(1));
        leavesNothing("refused for 4000 characters", t -> t.open(CODE).say("abcdefghi\n".repeat(400)),
            desk -> Check.answer(() -> sayA(desk)), t -> t.end(1).open(RULE));
    }

    private static Teller muchTold() {
        Teller teller = told().begin(HEADING, 2).say("head line").end(1).begin(NUMBERED, 98).open(ITEM).block(PARAGRAPH, "a b")
            .end(1).open(ITEM).say("c").br().end(2).open(QUOTE).block(CODE, "d\n\ne\n").open(RULE, PARAGRAPH).say("open");
        teller.desk.pages(6, 9);
        return teller;
    }

    private static void promise5AllGoes() {
        String due = Whole.of(new ProsePages());
        ProsePages fresh = new ProsePages();
        fresh.clear();
        Check.due("a new object, cleared", Whole.of(fresh), due);
        ProsePages desk = muchTold().desk;
        int nodes = desk.about(0);
        int lines = desk.about(4);
        desk.clear();
        Check.due("much told, cleared", Whole.of(desk), due);
        desk.clear();
        Check.due("cleared twice", Whole.of(desk), due);
        Check.due("the body is at hand", desk.end(), NONE);
        for (int k = 1; k < nodes; k++) {
            Check.due("node " + k + " is gone", desk.node(k, 0), NONE);
            Check.due("node " + k + " is found nowhere", desk.find(k), NONE);
        }
        for (int k = 0; k < lines; k++) {
            Check.due("line " + k + " is gone", desk.line(k, 0), NONE);
        }
        Check.due("no page", desk.page(0, 0), NONE);
        Check.due("no cell", desk.cell(0, 0, 0), NONE);
    }

    private static void promise5NothingOfBeforeShows() {
        Teller cleared = muchTold();
        cleared.desk.clear();
        Teller fresh = told();
        for (Teller teller : new Teller[] {cleared, fresh}) {
            teller.open(QUOTE).block(PARAGRAPH, "x y").end(1).begin(NUMBERED, 3).open(ITEM).say("z").open(PARAGRAPH).end(3);
        }
        Check.due("told, no pages yet", Whole.of(cleared.desk), Whole.of(fresh.desk));
        cleared.desk.pages(5, 8);
        fresh.desk.pages(5, 8);
        Check.due("told and laid out", Whole.of(cleared.desk), Whole.of(fresh.desk));
        cleared.desk.clear();
        Check.due("laid out with nothing told", cleared.desk.pages(7, 10), 1);
        fresh = told();
        fresh.desk.pages(7, 10);
        Check.due("as a new object is", Whole.of(cleared.desk), Whole.of(fresh.desk));
        cleared.desk.clear();
        ProsePages desk = cleared.block(CODE, "\n".repeat(1501)).desk;
        Check.refusedByState("too many lines and no pages of before", desk, () -> desk.pages(5, 8));
        Check.due("no pages", desk.about(3), 0);
    }

    private static void promise5FullAgain() {
        ProsePages nodes = ofNodes(300);
        nodes.clear();
        for (int i = 1; i < 300; i++) {
            Check.due("a node again", nodes.begin(RULE, 0), i);
        }
        Check.throwsState("the 301st again", () -> nodes.begin(RULE, 0));
        ProsePages characters = ofCharacters(4000);
        characters.clear();
        characters.begin(CODE, 0);
        Check.due("a character again", characters.say('a', 'b', 'c', 'd', 4), 2);
        Check.due("characters", characters.about(1), 4);
        ProsePages deep = quotes(11).desk;
        deep.clear();
        for (int i = 1; i < 12; i++) {
            Check.due("deep again", deep.begin(QUOTE, 0), i);
        }
        Check.throwsState("the 13th again", () -> deep.begin(QUOTE, 0));
        Teller lines = told().block(CODE, "a\n".repeat(1500));
        Check.due("1500 lines", lines.desk.pages(40, 60), 38);
        lines.desk.clear();
        Check.due("1500 lines again", lines.block(CODE, "b\n".repeat(1500)).desk.pages(40, 60), 38);
    }

    private static void promise11Body() {
        ProsePages desk = told().begin(HEADING, 6).say("abc").desk;
        int[] due = {NONE, NONE, NONE, 0, NONE};
        for (int what = -1; what <= 3; what++) {
            Check.due("node(0, " + what + ")", desk.node(0, what), due[what + 1]);
        }
    }

    private static void promise11NoSuchNode() {
        ProsePages desk = told().begin(HEADING, 6).say("abc").desk;
        for (int node : new int[] {-1, 3, 4, 299, 300, LEAST, MOST}) {
            for (int what = -1; what <= 3; what++) {
                Check.due("node(" + node + ", " + what + ")", desk.node(node, what), NONE);
            }
        }
        Check.due("the last one", desk.node(2, 2), 3);
        ProsePages full = ofNodes(300);
        Check.due("the last of 300", full.node(299, 0), BREAK);
        Check.due("one beyond", full.node(300, 0), NONE);
    }

    private static void promise11AnotherWhat() {
        ProsePages desk = told().begin(HEADING, 6).say("abc").desk;
        for (int what : new int[] {-1, 3, 4, 256, LEAST, MOST}) {
            for (int node = 0; node <= 2; node++) {
                Check.due("node(" + node + ", " + what + ")", desk.node(node, what), NONE);
            }
        }
    }

    private static void promise11ValuesOfEachKind() {
        ProsePages desk = told().open(RULE).block(CODE, "ab").open(QUOTE).begin(NUMBERED, 0).open(ITEM).say("abcde").br()
            .open(GROUP).say("f").end(3).open(ROW).end(2).begin(HEADING, 6).end(1).open(PARAGRAPH).desk;
        int[][] due = {{NONE, NONE, 0}, {RULE, 0, 0}, {CODE, 0, 0}, {10, 2, 2}, {QUOTE, 0, 0}, {NUMBERED, 4, 0},
            {ITEM, 5, 0}, {10, 6, 5}, {BREAK, 6, 0}, {GROUP, 6, 0}, {10, 9, 1}, {ROW, 4, 0}, {HEADING, 0, 6},
            {PARAGRAPH, 0, 0}};
        Check.due("nodes", desk.about(0), due.length);
        for (int k = 0; k < due.length; k++) {
            for (int what = 0; what < 3; what++) {
                Check.due("node(" + k + ", " + what + ")", desk.node(k, what), due[k][what]);
            }
        }
    }

    private static void promise12WithoutPages() {
        ProsePages desk = told().block(PARAGRAPH, "abc").open(QUOTE).desk;
        int[] due = {NONE, 4, 3, 3, 0, 0, 0, 0, NONE};
        for (int what = -1; what <= 7; what++) {
            Check.due("about(" + what + ")", desk.about(what), due[what + 1]);
        }
        Check.refusedByArgument("pages that are none", desk, () -> desk.pages(4, 8));
    }

    private static void promise12AnotherWhat() {
        ProsePages desk = told().block(PARAGRAPH, "abc").desk;
        desk.pages(5, 8);
        for (int what : new int[] {-1, 7, 8, 256, LEAST, MOST}) {
            Check.due("about(" + what + ")", desk.about(what), NONE);
        }
        Check.due("the first one", desk.about(0), 3);
        Check.due("the last one", desk.about(6), 8);
    }
}
