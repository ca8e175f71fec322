/** Promises 1 to 5, 11 and 12: a new object, begin, end, say, clear, node, about. */
public final class NodesTest implements Kinds {
    private static final int NONE = ProsePages.NONE;

    public static void main(String[] args) {
        promise1NewObject();
        promise2Numbers();
        promise2WhatMayHoldWhat();
        promise2LevelsAndNumbers();
        promise2MostNodes();
        promise2MostDepth();
        promise3End();
        promise4SameOrNewText();
        promise4LowestBytes();
        promise4Refusals();
        promise4MostNodesAndDepth();
        promise4MostCharacters();
        promise5Clear();
        promise11Node();
        promise12About();
        Check.done();
    }

    private static void promise1NewObject() {
        ProsePages desk = new ProsePages();
        int[] due = {1, 0, 0, 0, 0, 0, 0};
        for (int what = 0; what < due.length; what++) {
            Check.due("a new object's about(" + what + ")", desk.about(what), due[what]);
        }
        Check.due("a new object's cell(0, 0, 0)", desk.cell(0, 0, 0), NONE);
        Check.due("a new object's page(0, 0)", desk.page(0, 0), NONE);
        Check.due("a new object's line(0, 0)", desk.line(0, 0), NONE);
        Check.due("a new object's find(0)", desk.find(0), NONE);
        Check.due("a new object's node(0, 0)", desk.node(0, 0), NONE);
        Check.due("a new object's end()", desk.end(), NONE);
    }

    private static void promise2Numbers() {
        ProsePages desk = new ProsePages();
        Check.due("first node", desk.begin(QUOTE, 0), 1);
        Check.due("a RULE", desk.begin(RULE, 0), 2);
        Check.due("a RULE is not at hand", desk.about(2), 1);
        Check.due("a PARAGRAPH", desk.begin(PARAGRAPH, -7), 3);
        Check.due("a PARAGRAPH is at hand", desk.about(2), 3);
        Check.due("a BREAK", desk.begin(BREAK, 0), 4);
        Check.due("a BREAK is not at hand", desk.about(2), 3);
        Check.due("a GROUP", desk.begin(GROUP, 0), 5);
        Check.due("a GROUP is at hand", desk.about(2), 5);
    }

    /** A desk with a node of a kind at hand; NONE stands for the body. */
    private static Teller at(int kind) {
        Teller teller = new Teller();
        switch (kind) {
            case NONE:
                return teller;
            case ITEM:
                return teller.open(ROW, ITEM, QUOTE).end(1);
            case GROUP:
                return teller.open(PARAGRAPH, GROUP);
            default:
                return teller.open(kind);
        }
    }

    private static void promise2WhatMayHoldWhat() {
        int[] holders = {NONE, PARAGRAPH, HEADING, CODE, QUOTE, ROW, NUMBERED,
            ITEM, GROUP};
        String[] held = {"0123456", "89", "89", "", "0123456", "7", "7", "012345689", "89"};
        for (int h = 0; h < holders.length; h++) {
            for (int kind = -2; kind < 13; kind++) {
                ProsePages desk = at(holders[h]).desk;
                int asked = kind;
                int nodes = desk.about(0);
                boolean may = kind >= 0 && kind < 10 && held[h].indexOf('0' + kind) >= 0;
                Check.due("begin(" + kind + ", 1) in kind " + holders[h], Check.answer(() -> desk.begin(asked, 1)),
                    may ? "" + nodes : "IllegalArgumentException");
                Check.due("nodes then", desk.about(0), may ? nodes + 1 : nodes);
            }
        }
        boolean[] mayText = {false, true, true, true, false, false, false, true, true};
        for (int h = 0; h < holders.length; h++) {
            ProsePages desk = at(holders[h]).desk;
            int nodes = desk.about(0);
            Check.due("say in kind " + holders[h], Check.answer(() -> desk.say('a', 0, 0, 0, 1)),
                mayText[h] ? "" + nodes : "IllegalArgumentException");
        }
    }

    private static void promise2LevelsAndNumbers() {
        int[] levels = {Integer.MIN_VALUE, -1, 0, 1, 6, 7, Integer.MAX_VALUE};
        for (int level : levels) {
            ProsePages desk = new ProsePages();
            Check.due("HEADING of level " + level, Check.answer(() -> desk.begin(HEADING, level)),
                level >= 1 && level <= 6 ? "1" : "IllegalArgumentException");
        }
        int[] numbers = {Integer.MIN_VALUE, -1, 0, 1, 999999999, 1000000000, Integer.MAX_VALUE};
        for (int number : numbers) {
            ProsePages desk = new ProsePages();
            Check.due("NUMBERED from " + number, Check.answer(() -> desk.begin(NUMBERED, number)),
                number >= 0 && number <= 999999999 ? "1" : "IllegalArgumentException");
        }
        ProsePages desk = new ProsePages();
        Check.due("a number doesn't count for a QUOTE", desk.begin(QUOTE, Integer.MIN_VALUE), 1);
    }

    private static void promise2MostNodes() {
        ProsePages desk = new ProsePages();
        for (int i = 1; i < 300; i++) {
            Check.due("node", desk.begin(RULE, 0), i);
        }
        Check.throwsState("the 301st node", () -> desk.begin(RULE, 0));
        Check.throwsState("the state is looked at first", () -> desk.begin(99, 0));
        Check.due("nodes", desk.about(0), 300);
    }

    private static ProsePages eleven() {
        ProsePages desk = new ProsePages();
        for (int i = 1; i < 11; i++) {
            desk.begin(QUOTE, 0);
        }
        return desk;
    }

    private static void promise2MostDepth() {
        ProsePages desk = eleven();
        Check.throwsArgument("a wrong kind as the 12th", () -> desk.begin(ITEM, 0));
        Check.due("a RULE as the 12th", desk.begin(RULE, 0), 11);
        Check.due("a QUOTE as the 12th", desk.begin(QUOTE, 0), 12);
        Check.throwsState("a RULE as the 13th", () -> desk.begin(RULE, 0));
        Check.throwsState("a QUOTE as the 13th", () -> desk.begin(QUOTE, 0));
        Check.throwsState("a wrong kind as the 13th", () -> desk.begin(-1, 0));
        Check.due("nodes", desk.about(0), 13);
        Check.due("end()", desk.end(), 10);
        Check.due("one more as the 12th", desk.begin(CODE, 0), 13);
    }

    private static void promise3End() {
        ProsePages desk = new Teller().open(ROW, ITEM, PARAGRAPH).desk;
        Check.due("end() of the PARAGRAPH", desk.end(), 2);
        Check.due("at hand", desk.about(2), 2);
        Check.due("end() of the ITEM", desk.end(), 1);
        Check.due("end() of the ROW", desk.end(), 0);
        Check.due("end() of the body", desk.end(), NONE);
        Check.due("the body stays at hand", desk.about(2), 0);
        Check.due("it holds on", desk.begin(RULE, 0), 4);
        Check.due("held by", desk.node(4, 1), 0);
    }

    private static void promise4SameOrNewText() {
        ProsePages desk = new ProsePages();
        desk.begin(PARAGRAPH, 0);
        Check.due("a new text", desk.say('a', 'b', 'c', 'd', 4), 2);
        Check.due("the same text", desk.say('e', 0, 0, 0, 1), 2);
        desk.begin(BREAK, 0);
        Check.due("behind a BREAK", desk.say('f', 'g', 0, 0, 2), 4);
        desk.begin(GROUP, 0);
        Check.due("in a GROUP", desk.say('h', 'i', 'j', 0, 3), 6);
        desk.end();
        Check.due("behind a GROUP", desk.say('k', 0, 0, 0, 1), 7);
        Check.due("characters", desk.about(1), 11);
        Check.due("characters of the first text", desk.node(2, 2), 5);
        Check.due("a text is not at hand", desk.about(2), 1);
    }

    private static void promise4LowestBytes() {
        ProsePages desk = new ProsePages();
        desk.begin(CODE, 0);
        desk.say(0x12345641, -1, 0x100, 0x7fffff42, 4);
        desk.pages(5, 8);
        Check.due("lowest byte of a", desk.cell(0, 0, 0), 0x41);
        Check.due("lowest byte of b", desk.cell(0, 0, 1), 255);
        Check.due("lowest byte of c", desk.cell(0, 0, 2), 0);
        Check.due("lowest byte of d", desk.cell(0, 0, 3), 0x42);
        for (int n = 1; n <= 4; n++) {
            Teller one = new Teller().open(PARAGRAPH);
            one.desk.say('a', 'b', 'c', 'd', n);
            Check.due(n + " characters", one.seen(5, 8), "abcd".substring(0, n));
        }
    }

    private static void promise4Refusals() {
        ProsePages desk = new ProsePages();
        desk.begin(PARAGRAPH, 0);
        for (int n : new int[] {Integer.MIN_VALUE, -1, 0, 5, Integer.MAX_VALUE}) {
            Check.throwsArgument("say of " + n, () -> desk.say('a', 'b', 'c', 'd', n));
        }
        Check.due("characters", desk.about(1), 0);
        Check.due("nodes", desk.about(0), 2);
        desk.end();
        Check.throwsArgument("say in the body", () -> desk.say('a', 'b', 'c', 'd', 4));
    }

    private static void promise4MostNodesAndDepth() {
        ProsePages desk = new ProsePages();
        desk.begin(PARAGRAPH, 0);
        for (int i = 2; i < 299; i++) {
            desk.begin(BREAK, 0);
        }
        Check.due("the 300th node is a text", desk.say('a', 0, 0, 0, 1), 299);
        Check.due("it takes more", desk.say('b', 0, 0, 0, 1), 299);
        desk.end();
        Check.throwsArgument("not here, before all is full", () -> desk.say('b', 0, 0, 0, 1));
        ProsePages full = new ProsePages();
        full.begin(PARAGRAPH, 0);
        for (int i = 2; i < 300; i++) {
            full.begin(BREAK, 0);
        }
        Check.throwsState("a text as the 301st", () -> full.say('a', 0, 0, 0, 1));
        Check.throwsArgument("n is looked at before", () -> full.say('a', 0, 0, 0, 0));
        Check.due("characters", full.about(1), 0);
        ProsePages deep = eleven();
        deep.begin(PARAGRAPH, 0);
        Check.throwsState("a text as the 13th", () -> deep.say('a', 0, 0, 0, 1));
        Check.due("nodes", deep.about(0), 12);
    }

    private static void promise4MostCharacters() {
        ProsePages desk = new ProsePages();
        desk.begin(PARAGRAPH, 0);
        for (int i = 0; i < 999; i++) {
            desk.say('a', 'b', 'c', 'd', 4);
        }
        desk.say('a', 'b', 0, 0, 2);
        Check.throwsState("the 4001st character", () -> desk.say('a', 'b', 'c', 0, 3));
        Check.due("characters", desk.about(1), 3998);
        Check.due("the 4000th character", desk.say('a', 'b', 0, 0, 2), 2);
        Check.throwsState("one more", () -> desk.say('a', 0, 0, 0, 1));
        Check.due("characters", desk.node(2, 2), 4000);
    }

    private static void promise5Clear() {
        Teller teller = new Teller().open(QUOTE, PARAGRAPH, GROUP).say("abc");
        ProsePages desk = teller.desk;
        desk.pages(5, 8);
        desk.clear();
        int[] due = {1, 0, 0, 0, 0, 0, 0};
        for (int what = 0; what < due.length; what++) {
            Check.due("about(" + what + ") when cleared", desk.about(what), due[what]);
        }
        Check.due("a node is gone", desk.node(1, 0), NONE);
        Check.due("no page", desk.page(0, 0), NONE);
        Check.due("no line", desk.line(0, 0), NONE);
        Check.due("no cell", desk.cell(0, 0, 0), NONE);
        Check.due("nothing found", desk.find(0), NONE);
        Check.due("numbers from 1 on", desk.begin(PARAGRAPH, 0), 1);
        Check.due("made behind", desk.find(1), NONE);
        Check.due("other words", teller.say("x y").seen(5, 8), "x y");
    }

    private static void promise11Node() {
        ProsePages desk = new Teller().begin(HEADING, 3).say("abcdef").end(1).begin(NUMBERED, 999999999)
            .begin(ITEM, 5).begin(QUOTE, 8).desk;
        int[][] due = {{NONE, NONE, 0}, {1, 0, 3}, {10, 1, 6}, {6, 0, 999999999}, {7, 3, 0}, {4, 4, 0}};
        for (int k = 0; k < due.length; k++) {
            for (int what = 0; what < 3; what++) {
                Check.due("node(" + k + ", " + what + ")", desk.node(k, what), due[k][what]);
            }
        }
        Check.due("node behind the last", desk.node(6, 0), NONE);
        Check.due("node before the first", desk.node(-1, 0), NONE);
        Check.due("node far behind", desk.node(Integer.MAX_VALUE, 2), NONE);
        Check.due("another what", desk.node(1, 3), NONE);
        Check.due("another what", desk.node(1, -1), NONE);
    }

    private static void promise12About() {
        Teller teller = new Teller().block(PARAGRAPH, "ab").open(QUOTE, RULE);
        ProsePages desk = teller.desk;
        desk.pages(7, 9);
        int[] due = {5, 2, 3, 1, 3, 7, 9};
        for (int what = 0; what < due.length; what++) {
            Check.due("about(" + what + ")", desk.about(what), due[what]);
        }
        Check.due("about(7)", desk.about(7), NONE);
        Check.due("about(-1)", desk.about(-1), NONE);
        Check.due("about(least)", desk.about(Integer.MIN_VALUE), NONE);
    }
}
