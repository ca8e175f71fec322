import java.util.Random;

/** Long runs of calls of every kind, drawn from fixed seeds: the desk answers as the model does, all promises together. */
public final class ModelTest {
    private static final int[] WILD =
        {Integer.MIN_VALUE, -1000, -1, 0, 1, 2, 3, 4, 5, 6, 7, 8, 9, 10, 11, 32, 41, 60, 61, 299, 300, 999999999, 1000000000,
            Integer.MAX_VALUE};
    private static final String LETTERS = "abcdefgh     \n\n\t\r\f\u00a0\u0000\u00ff-*>=.";

    private final Random random;
    private final String run;
    private final ProsePages desk = new ProsePages();
    private final Model model = new Model();
    // Every run has its own leanings, so that some go deep, some wide and some long.
    private final int endOften;
    private final int beginOften;
    private final int whiteOften;
    private final int mostColumns;

    private ModelTest(long seed) {
        random = new Random(seed);
        run = "run " + seed + ": ";
        endOften = 1 + random.nextInt(8);
        beginOften = 6 + 6 * random.nextInt(5);
        whiteOften = random.nextInt(6);
        mostColumns = random.nextBoolean() ? 12 : 60;
    }

    public static void main(String[] args) {
        for (long seed = 0; seed < 2500 && Check.isAllRight(); seed++) {
            new ModelTest(seed).go();
        }
        for (long seed = 0; seed < 100 && Check.isAllRight(); seed++) {
            new ModelTest(seed).goLong();
            new ModelTest(seed).goWide();
        }
        Check.done();
    }

    private void go() {
        int calls = random.nextInt(5) == 0 ? 512 : 20 + random.nextInt(120);
        for (int i = 0; i < calls; i++) {
            step();
        }
        compareAll();
    }

    /** Some nodes, then a long CODE, whose lines come to 1500 and beyond. */
    private void goLong() {
        int some = random.nextInt(60);
        for (int i = 0; i < some; i++) {
            step();
        }
        while (!Model.holds(model.hand.kind).startsWith("0 ")) {
            end();
        }
        begin(3, 0);
        for (int i = 0; i < 400; i++) {
            say(lineEnd(), lineEnd(), lineEnd(), lineEnd(), 4);
            if (i % 40 == 0 || i > 360) {
                pages(5 + random.nextInt(36), 8 + random.nextInt(mostColumns - 7));
            }
        }
        compareAll();
    }

    /** Nodes upon nodes, up to 300 of them and beyond. */
    private void goWide() {
        for (int i = 0; i < 512; i++) {
            boolean isDeep = model.isRefused() && model.nodes.size() < 300;
            if (isDeep || model.hand.kind == 3 || random.nextInt(8) == 0) {
                end();
            } else if (random.nextInt(12) == 0) {
                step();
            } else {
                begin();
            }
        }
        compareAll();
    }

    private int lineEnd() {
        return random.nextInt(25) == 0 ? letter() : 10;
    }

    private void step() {
        int draw = random.nextInt(40);
        if (draw < endOften) {
            end();
        } else if (draw < endOften + beginOften) {
            begin();
        } else if (draw < 38) {
            say();
        } else if (draw < 39) {
            pages(5 + random.nextInt(random.nextBoolean() ? 4 : 36), 8 + random.nextInt(mostColumns - 7));
        } else {
            rare();
        }
    }

    private void end() {
        Check.due(run + "end()", "" + desk.end(), model.end());
    }

    private void begin() {
        String[] kinds = Model.holds(model.hand.kind).replace(" 10 ", " ").split(" ");
        int kind = Integer.parseInt(kinds[random.nextInt(kinds.length)]);
        int number = kind == 1 ? 1 + random.nextInt(6)
            : kind == 6 && random.nextBoolean() ? 999999990 + random.nextInt(10) : random.nextInt(120);
        begin(kind, number);
    }

    private void begin(int kind, int number) {
        String got = Check.answer(() -> desk.begin(kind, number));
        Check.due(run + "begin(" + kind + ", " + number + ")", got, model.begin(kind, number));
    }

    private void say() {
        say(letter(), letter(), letter(), letter(), 1 + random.nextInt(4));
    }

    private void say(int a, int b, int c, int d, int n) {
        String got = Check.answer(() -> desk.say(a, b, c, d, n));
        Check.due(run + "say(" + a + ", " + b + ", " + c + ", " + d + ", " + n + ")", got, model.say(a, b, c, d, n));
    }

    private int letter() {
        if (random.nextInt(8) < whiteOften) {
            return " \n\t\r".charAt(random.nextInt(4)) | random.nextInt(3) << 8;
        }
        return LETTERS.charAt(random.nextInt(LETTERS.length()));
    }

    private void pages(int rows, int columns) {
        String got = Check.answer(() -> desk.pages(rows, columns));
        Check.due(run + "pages(" + rows + ", " + columns + ")", got, model.pages(rows, columns));
    }

    private void rare() {
        switch (random.nextInt(8)) {
            case 0:
                if (random.nextInt(3) == 0) {
                    desk.clear();
                    model.clear();
                }
                break;
            case 1:
                pages(wild(), wild());
                break;
            case 2:
                begin(wild(), wild());
                break;
            case 3:
                say(wild(), wild(), wild(), wild(), wild());
                break;
            default:
                compareSome();
        }
    }

    private int wild() {
        return WILD[random.nextInt(WILD.length)];
    }

    private void compareSome() {
        for (int i = 0; i < 10; i++) {
            compareCell(random.nextInt(4), random.nextInt(8), random.nextInt(12));
            compareCell(wild(), wild(), wild());
            compareKnown(wild(), wild());
            compareKnown(random.nextInt(40), random.nextInt(3));
        }
    }

    private void compareCell(int page, int row, int column) {
        Check.due(run + "cell(" + page + ", " + row + ", " + column + ")", desk.cell(page, row, column),
            model.cell(page, row, column));
    }

    private void compareKnown(int k, int what) {
        String told = "(" + k + ", " + what + ")";
        Check.due(run + "page" + told, desk.page(k, what), model.page(k, what));
        Check.due(run + "line" + told, desk.line(k, what), model.line(k, what));
        Check.due(run + "node" + told, desk.node(k, what), model.node(k, what));
        Check.due(run + "find(" + k + ")", desk.find(k), model.find(k));
        Check.due(run + "about(" + what + ")", desk.about(what), model.about(what));
    }

    private void compareAll() {
        int rows = 5 + random.nextInt(8);
        int columns = 8 + random.nextInt(mostColumns - 7);
        pages(rows, columns);
        for (int what = -1; what < 8; what++) {
            Check.due(run + "about(" + what + ")", desk.about(what), model.about(what));
        }
        for (int page = -1; page <= model.about(3); page++) {
            for (int row = -1; row <= rows; row++) {
                for (int column = -1; column <= columns; column++) {
                    compareCell(page, row, column);
                }
            }
        }
        int most = Math.max(model.about(4), model.about(0));
        for (int k = -1; k <= most; k++) {
            for (int what = -1; what < 4; what++) {
                compareKnown(k, what);
            }
        }
    }
}
