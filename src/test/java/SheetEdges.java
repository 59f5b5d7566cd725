/** Edges of promises 34 to 40: keep, back, sheet, lay, read, torn, count. */
final class SheetEdges {
    private static final int BAD = AsleepPass.BAD;
    private static final int NONE = AsleepPass.NONE;
    private static final int STATE = AsleepPass.STATE;
    private static final int NULL = 1;
    private static final int INDEX = 2;
    private static final int CAST = 3;
    private static final int[] NO_IMAGE = {-1, 2, 3, NONE, Integer.MAX_VALUE, Integer.MIN_VALUE};
    private static final int[] NO_SHEET = {-1, 4, 5, NONE, Integer.MAX_VALUE, Integer.MIN_VALUE};
    private static final int[] NO_LANE = {-1, 3, 4, NONE, Integer.MAX_VALUE, Integer.MIN_VALUE};

    private SheetEdges() {
    }

    private static AsleepPass three() {
        return Check.told("stretch 1 1;stretch 1 1;stretch 1 1;bearer plain 0 0;bearer plain 0 0;bearer plain 0 0;");
    }

    private static void order(AsleepPass x, int first, int second, int third) {
        Check.due("stretch(0, 2)", x.stretch(0, 2), first);
        Check.due("stretch(1, 2)", x.stretch(1, 2), second);
        Check.due("stretch(2, 2)", x.stretch(2, 2), third);
    }

    private static void cells(AsleepPass x, int k, int lane, int... values) {
        Check.due("sheet", x.sheet(k, lane, values.length), 1);
        for (int i = 0; i < values.length; i++) {
            Check.due("lay", x.lay(k, i, values[i]), 1);
        }
    }

    /** A read() that must come to an end: how many came, and its FAULT. */
    private static void read(AsleepPass x, int k, int lane, int f, int n, int came, int fault) {
        String call = "read(" + k + ", " + lane + ", " + f + ", " + n + ")";
        Check.due(call, x.read(k, lane, f, n), came);
        Check.due("torn() behind " + call, x.torn(), fault);
    }

    // ---- 34: keep

    static void p34WhetherThereWasOne() {
        AsleepPass x = three();
        for (int k = 0; k < 2; k++) {
            Check.due("keep(" + k + ")", x.keep(k), 0);
            Check.due("keep(" + k + ")", x.keep(k), 1);
            Check.due("count(2)", x.count(2), k + 1);
        }
    }

    static void p34InPlaceOfTheOldOne() {
        AsleepPass x = three();
        x.keep(0);
        x.start(9);
        x.keep(0);
        x.start(1);
        x.back(0);
        Check.due("rule(2)", x.rule(2), 9);
    }

    static void p34OfNothing() {
        AsleepPass x = new AsleepPass();
        Check.due("keep(0)", x.keep(0), 0);
        x.start(9);
        Check.due("back(0)", x.back(0), 0);
        Check.due("rule(2)", x.rule(2), 5);
    }

    static void p34Bad() {
        AsleepPass x = three();
        for (int k : NO_IMAGE) {
            Check.due("keep(" + k + ")", x.keep(k), BAD);
        }
        Check.due("count(2)", x.count(2), 0);
    }

    // ---- 35: back

    static void p35AllIsAsTheImage() {
        AsleepPass x = Check.told("start 2;stretch 1 2;stretch 3 4;bearer tall 5 6;bearer twin 7 8;carry 1 1;");
        x.keep(1);
        x.start(9);
        for (int n = 0; n < 2; n++) {
            x.noise(n, 0);
            x.cold(n, 0);
            x.step(n, 0);
            x.warm(n, 0);
            x.put(n, 1 - n);
        }
        Check.due("back(1)", x.back(1), 2);
        Check.due("START", x.rule(2), 2);
        int[][] stretches = {{1, 2, 0}, {3, 4, 1}};
        int[][] bearers = {{3, 5, 6}, {4, 7, 8}};
        for (int n = 0; n < 2; n++) {
            for (int what = 0; what < 3; what++) {
                Check.due("stretch(" + n + ", " + what + ")", x.stretch(n, what), stretches[n][what]);
                Check.due("bearer(" + n + ", " + what + ")", x.bearer(n, what), bearers[n][what]);
            }
        }
    }

    static void p35TheImageStays() {
        AsleepPass x = three();
        x.keep(0);
        x.back(0);
        x.put(1, 2);
        x.noise(1, 9);
        Check.due("back(0) again", x.back(0), 3);
        order(x, 0, 0, 0);
        Check.due("NOISE", x.stretch(1, 0), 1);
        Check.due("count(2)", x.count(2), 1);
    }

    static void p35OfOneAndOfTheOther() {
        AsleepPass x = three();
        x.put(0, 1);
        x.keep(0);
        x.put(0, 2);
        x.keep(1);
        x.back(0);
        order(x, 1, 0, 0);
        x.back(1);
        order(x, 2, 0, 0);
    }

    static void p35HowManyStretches() {
        AsleepPass x = Check.told("stretch0 0;".repeat(10) + "bearer plain0 0;");
        x.keep(0);
        Check.due("back(0)", x.back(0), 10);
    }

    static void p35StateThereIsNone() {
        AsleepPass x = three();
        Check.due("back(0)", x.back(0), STATE);
        Check.due("back(1)", x.back(1), STATE);
        x.keep(0);
        x.start(1);
        Check.due("back(1)", x.back(1), STATE);
        Check.due("START stays", x.rule(2), 1);
    }

    static void p35Bad() {
        AsleepPass x = three();
        for (int k : NO_IMAGE) {
            Check.due("back(" + k + ")", x.back(k), BAD);
        }
        x.keep(0);
        x.keep(1);
        for (int k : NO_IMAGE) {
            Check.due("back(" + k + ")", x.back(k), BAD);
        }
    }

    static void p35NothingElseGoesBack() {
        AsleepPass x = three();
        x.keep(0);
        x.learn(0, 0, 0, 2);
        x.mark(0, 4);
        x.feed(0);
        x.sheet(0, 0, 5);
        x.read(0, 1, 0, 1);
        x.back(0);
        int[] want = {1, 1, 1, 8, 5};
        for (int what = 0; what < 5; what++) {
            Check.due("count(" + what + ")", x.count(what), want[what]);
        }
        Check.due("torn()", x.torn(), CAST);
    }

    // ---- 36: sheet

    static void p36NoneAndForty() {
        AsleepPass x = new AsleepPass();
        for (int lane = 0; lane < 3; lane++) {
            Check.due("sheet(0, " + lane + ", 0)", x.sheet(0, lane, 0), 1);
            Check.due("count(4)", x.count(4), 0);
            Check.due("sheet(0, " + lane + ", 40)", x.sheet(0, lane, 40), 1);
            Check.due("count(4)", x.count(4), 40);
        }
    }

    static void p36CellsAreZero() {
        AsleepPass x = three();
        cells(x, 1, 2, 2, 2, 2, 2);
        x.sheet(1, 2, 4);
        x.put(0, 1);
        x.put(2, 1);
        read(x, 1, 2, 0, 2, 2, 0);
        order(x, 0, 0, 1);
    }

    static void p36CellsAreZeroWhereItGrowsAgain() {
        AsleepPass x = three();
        cells(x, 0, 1, 2, 2, 2, 2);
        x.sheet(0, 1, 2);
        x.sheet(0, 1, 4);
        read(x, 0, 1, 0, 2, 2, 0);
        order(x, 0, 0, 0);
    }

    static void p36AnotherLaneThen() {
        AsleepPass x = three();
        x.sheet(0, 0, 2);
        x.sheet(0, 2, 2);
        read(x, 0, 0, 0, 1, 0, CAST);
        read(x, 0, 2, 0, 1, 1, 0);
    }

    static void p36SheetsAreApart() {
        AsleepPass x = three();
        for (int k = 0; k < 4; k++) {
            cells(x, k, k % 3, k % 3, 2 - k % 3);
        }
        read(x, 2, 2, 0, 1, 1, 0);
        order(x, 0, 0, 0);
        read(x, 3, 0, 0, 1, 1, 0);
        order(x, 2, 0, 0);
        read(x, 1, 1, 0, 1, 1, 0);
        order(x, 2, 1, 0);
    }

    static void p36Bad() {
        AsleepPass x = new AsleepPass();
        for (int k : NO_SHEET) {
            Check.due("sheet(" + k + ", 0, 1)", x.sheet(k, 0, 1), BAD);
        }
        for (int lane : NO_LANE) {
            Check.due("sheet(0, " + lane + ", 1)", x.sheet(0, lane, 1), BAD);
        }
        for (int n : new int[] {41, 42, 320, Integer.MAX_VALUE}) {
            Check.due("sheet(0, 0, " + n + ")", x.sheet(0, 0, n), BAD);
        }
        Check.due("there is nothing yet", x.count(4), NONE);
    }

    static void p36SizeBelowZero() {
        AsleepPass x = new AsleepPass();
        for (int n : new int[] {-1, -2, NONE, -40, Integer.MIN_VALUE}) {
            for (int k = 0; k < 4; k++) {
                Check.due("sheet(" + k + ", 1, " + n + ")", x.sheet(k, 1, n), -14);
            }
        }
        Check.due("there is nothing yet", x.count(4), NONE);
    }

    static void p36BadAheadOfSize() {
        AsleepPass x = new AsleepPass();
        for (int k : NO_SHEET) {
            Check.due("sheet(" + k + ", 0, -1)", x.sheet(k, 0, -1), BAD);
        }
        for (int lane : NO_LANE) {
            Check.due("sheet(0, " + lane + ", -1)", x.sheet(0, lane, -1), BAD);
        }
    }

    static void p36RefusedTheOldOneStays() {
        AsleepPass x = three();
        cells(x, 0, 1, 2, 1);
        x.sheet(0, 0, 41);
        x.sheet(0, 0, -1);
        x.sheet(0, 3, 2);
        Check.due("count(4)", x.count(4), 2);
        read(x, 0, 1, 0, 1, 1, 0);
        order(x, 0, 0, 1);
    }

    // ---- 37: lay

    static void p37FirstAndLast() {
        AsleepPass x = new AsleepPass();
        x.sheet(3, 0, 40);
        Check.due("lay(3, 0, 1)", x.lay(3, 0, 1), 1);
        Check.due("lay(3, 39, 1)", x.lay(3, 39, 1), 1);
    }

    static void p37Null() {
        AsleepPass x = new AsleepPass();
        for (int k = 0; k < 4; k++) {
            for (int i : new int[] {0, -1, 40, Integer.MAX_VALUE, Integer.MIN_VALUE}) {
                Check.due("NULL ahead of INDEX: lay(" + k + ", " + i + ", 1)", x.lay(k, i, 1), -11);
            }
        }
    }

    static void p37Index() {
        AsleepPass x = new AsleepPass();
        x.sheet(0, 2, 7);
        x.sheet(1, 2, 0);
        x.sheet(2, 2, 40);
        for (int i : new int[] {-1, 40, 41, NONE, Integer.MAX_VALUE, Integer.MIN_VALUE}) {
            Check.due("lay(0, " + i + ", 1)", x.lay(0, i, 1), -12);
            Check.due("lay(1, " + i + ", 1)", x.lay(1, i, 1), -12);
            Check.due("lay(2, " + i + ", 1)", x.lay(2, i, 1), -12);
        }
        Check.due("lay(0, 6, 1)", x.lay(0, 6, 1), 1);
        Check.due("lay(0, 7, 1)", x.lay(0, 7, 1), -12);
        Check.due("lay(1, 0, 1)", x.lay(1, 0, 1), -12);
    }

    static void p37BadSheet() {
        AsleepPass x = new AsleepPass();
        for (int k : NO_SHEET) {
            Check.due("lay(" + k + ", 0, 1)", x.lay(k, 0, 1), BAD);
            Check.due("BAD ahead of the FAULTS: lay(" + k + ", -1, 1)", x.lay(k, -1, 1), BAD);
        }
    }

    static void p37TheLowestBitsOfBytes() {
        AsleepPass x = three();
        cells(x, 0, 0, 256 + 2, -256 + 1);
        read(x, 0, 0, 0, 1, 1, 0);
        order(x, 0, 0, 1);
        x.lay(0, 0, Integer.MIN_VALUE);
        x.lay(0, 1, 0x7FFFFF02);
        read(x, 0, 0, 0, 1, 1, 0);
        order(x, 2, 0, 1);
        // 128 to 255 are below 0 as BYTES.
        for (int v : new int[] {128, 255, -1, -128, 127, Integer.MAX_VALUE}) {
            x.lay(0, 0, v);
            Check.due("BYTE of " + v, x.read(0, 0, 0, 1), -20);
        }
    }

    static void p37TheLowestBitsOfShorts() {
        AsleepPass x = three();
        cells(x, 0, 1, 65536 + 2, -65536 + 1);
        read(x, 0, 1, 0, 1, 1, 0);
        order(x, 0, 0, 1);
        for (int v : new int[] {256, 258, 32767, 32768, 65535, -1, Integer.MAX_VALUE}) {
            x.lay(0, 0, v);
            Check.due("SHORT of " + v, x.read(0, 1, 0, 1), -20);
        }
        x.lay(0, 0, Integer.MIN_VALUE);
        read(x, 0, 1, 0, 1, 1, 0);
        order(x, 1, 0, 1);
    }

    static void p37AllBitsOfInts() {
        AsleepPass x = three();
        cells(x, 0, 2, 2, 1);
        read(x, 0, 2, 0, 1, 1, 0);
        order(x, 0, 0, 1);
        for (int v : new int[] {256, 65536, 65538, -1, Integer.MAX_VALUE, Integer.MIN_VALUE}) {
            x.lay(0, 0, v);
            Check.due("INT of " + v, x.read(0, 2, 0, 1), -20);
        }
    }

    // ---- 38: read

    static void p38None() {
        AsleepPass x = three();
        cells(x, 0, 1, 9, 9);
        read(x, 0, 1, 0, 0, 0, 0);
        for (int f : new int[] {-1, 2, 40, 99, Integer.MAX_VALUE, Integer.MIN_VALUE}) {
            read(x, 0, 1, f, 0, 0, 0);
        }
    }

    static void p38Twenty() {
        AsleepPass x = three();
        x.sheet(0, 0, 40);
        x.lay(0, 39, 2);
        read(x, 0, 0, 0, 20, 20, 0);
        order(x, 2, 0, 0);
    }

    static void p38UpToTheLastCell() {
        AsleepPass x = three();
        cells(x, 0, 2, 0, 0, 0, 1, 1, 2);
        read(x, 0, 2, 4, 1, 1, 0);
        order(x, 0, 2, 0);
        read(x, 0, 2, 2, 2, 2, 0);
        order(x, 1, 2, 0);
    }

    static void p38FromAnOddCell() {
        AsleepPass x = three();
        cells(x, 0, 0, 9, 2, 1, 9);
        read(x, 0, 0, 1, 1, 1, 0);
        order(x, 0, 0, 1);
    }

    static void p38TheSameStretchTwice() {
        AsleepPass x = three();
        cells(x, 0, 0, 1, 1, 1, 2);
        read(x, 0, 0, 0, 2, 2, 0);
        order(x, 0, 2, 0);
    }

    static void p38Null() {
        AsleepPass x = three();
        for (int lane = 0; lane < 3; lane++) {
            read(x, 3, lane, 0, 1, 0, NULL);
            read(x, 3, lane, -1, 20, 0, NULL);
        }
    }

    static void p38NoneOfNothing() {
        // No CELL is looked at: the machine finds nothing.
        AsleepPass x = three();
        read(x, 3, 0, 0, 0, 0, 0);
    }

    static void p38CastOfAnyOtherLane() {
        AsleepPass x = three();
        for (int k = 0; k < 3; k++) {
            x.sheet(k, k, 2);
            for (int lane = 0; lane < 3; lane++) {
                read(x, k, lane, 0, 1, lane == k ? 1 : 0, lane == k ? 0 : CAST);
            }
        }
    }

    static void p38CastAheadOfIndexAndOfBad() {
        AsleepPass x = three();
        cells(x, 0, 1, 9, 9);
        read(x, 0, 0, 0, 1, 0, CAST);
        read(x, 0, 2, -1, 20, 0, CAST);
        read(x, 0, 2, 7, 1, 0, CAST);
    }

    static void p38CastOfNone() {
        // The SHEET is taken as of the lane ahead of all CELLS.
        AsleepPass x = three();
        x.sheet(0, 1, 2);
        read(x, 0, 2, 0, 0, 0, CAST);
    }

    static void p38IndexBelowZero() {
        AsleepPass x = three();
        x.sheet(0, 1, 40);
        for (int f : new int[] {-1, -2, NONE, -40, Integer.MIN_VALUE, Integer.MIN_VALUE + 1}) {
            read(x, 0, 1, f, 1, 0, INDEX);
            read(x, 0, 1, f, 20, 0, INDEX);
        }
    }

    static void p38IndexBehindTheEnd() {
        AsleepPass x = three();
        x.sheet(0, 1, 8);
        for (int f : new int[] {7, 8, 9, 40, Integer.MAX_VALUE, Integer.MAX_VALUE - 1}) {
            read(x, 0, 1, f, 1, 0, INDEX);
            read(x, 0, 1, f, 20, 0, INDEX);
        }
        x.sheet(1, 1, 0);
        read(x, 1, 1, 0, 1, 0, INDEX);
        x.sheet(1, 1, 1);
        read(x, 1, 1, 0, 1, 0, INDEX);
    }

    static void p38ThoseThatWereWholeAheadCome() {
        AsleepPass x = three();
        cells(x, 0, 2, 0, 1, 1, 2, 2);
        read(x, 0, 2, 0, 3, 2, INDEX);
        order(x, 1, 2, 0);
        AsleepPass y = three();
        cells(y, 0, 2, 0, 1, 1, 2);
        read(y, 0, 2, 0, 20, 2, INDEX);
        order(y, 1, 2, 0);
        AsleepPass z = three();
        cells(z, 0, 2, 0, 1, 1, 2);
        read(z, 0, 2, 2, 2, 1, INDEX);
        order(z, 0, 2, 0);
    }

    static void p38OneThatIsNotWholeIsNotBad() {
        AsleepPass x = three();
        cells(x, 0, 2, 0, 1, 77);
        read(x, 0, 2, 0, 2, 1, INDEX);
        order(x, 1, 0, 0);
    }

    static void p38TheFirstIsBad() {
        AsleepPass x = three();
        cells(x, 0, 2, 3, 0, 0, 2);
        Check.due("no such STRETCH", x.read(0, 2, 0, 2), -20);
        x.lay(0, 0, -1);
        Check.due("no such STRETCH", x.read(0, 2, 0, 2), -20);
        x.lay(0, 0, 0);
        x.lay(0, 1, 3);
        Check.due("no such BEARER", x.read(0, 2, 0, 2), -20);
        x.lay(0, 1, NONE);
        Check.due("no such BEARER", x.read(0, 2, 0, 2), -20);
        order(x, 0, 0, 0);
    }

    static void p38TheTwentiethIsBad() {
        AsleepPass x = three();
        x.sheet(0, 0, 40);
        for (int i = 1; i < 40; i += 2) {
            x.lay(0, i, 1);
        }
        x.lay(0, 39, 3);
        Check.due("read(0, 0, 0, 20)", x.read(0, 0, 0, 20), -39);
        order(x, 0, 0, 0);
        read(x, 0, 0, 0, 19, 19, 0);
        order(x, 1, 0, 0);
    }

    static void p38ThenNoneCame() {
        AsleepPass x = three();
        cells(x, 0, 2, 0, 1, 1, 2, 2, 3);
        Check.due("the third is BAD", x.read(0, 2, 0, 3), -22);
        order(x, 0, 0, 0);
    }

    static void p38TheFirstBadIsMet() {
        AsleepPass x = three();
        cells(x, 0, 2, 0, 1, 9, 9, 8, 8);
        Check.due("the second of two", x.read(0, 2, 0, 3), -21);
        Check.due("from there on the first", x.read(0, 2, 2, 2), -20);
    }

    static void p38BadAheadOfTheEndIsMetFirst() {
        AsleepPass x = three();
        cells(x, 0, 2, 0, 1, 9, 9, 1);
        Check.due("BAD, then torn", x.read(0, 2, 0, 3), -21);
        order(x, 0, 0, 0);
        Check.due("torn() of none", x.torn(), 0);
    }

    static void p38ThereIsNoWay() {
        AsleepPass x = new AsleepPass();
        x.sheet(0, 0, 2);
        Check.due("read(0, 0, 0, 1)", x.read(0, 0, 0, 1), -20);
        read(x, 0, 0, 0, 0, 0, 0);
    }

    static void p38Bad() {
        AsleepPass x = three();
        x.sheet(0, 0, 2);
        for (int k : NO_SHEET) {
            Check.due("read(" + k + ", 0, 0, 1)", x.read(k, 0, 0, 1), BAD);
        }
        for (int lane : NO_LANE) {
            Check.due("read(0, " + lane + ", 0, 1)", x.read(0, lane, 0, 1), BAD);
        }
        for (int n : new int[] {-1, 21, 22, NONE, Integer.MAX_VALUE, Integer.MIN_VALUE}) {
            Check.due("read(0, 0, 0, " + n + ")", x.read(0, 0, 0, n), BAD);
        }
        Check.due("torn()", x.torn(), 0);
    }

    static void p38BadAheadOfTheFaults() {
        AsleepPass x = three();
        Check.due("n 21 of nothing", x.read(0, 0, 0, 21), BAD);
        x.sheet(0, 0, 2);
        Check.due("n 21 of another lane", x.read(0, 1, 0, 21), BAD);
        Check.due("n -1 below CELL 0", x.read(0, 0, -1, -1), BAD);
        Check.due("torn()", x.torn(), 0);
    }

    // ---- 39: torn

    static void p39ZeroAtFirst() {
        Check.due("torn()", new AsleepPass().torn(), 0);
    }

    static void p39OfTheLatest() {
        AsleepPass x = three();
        x.sheet(0, 0, 2);
        read(x, 1, 0, 0, 1, 0, NULL);
        read(x, 0, 0, 1, 1, 0, INDEX);
        read(x, 0, 1, 0, 1, 0, CAST);
        Check.due("torn() again", x.torn(), CAST);
        read(x, 0, 0, 0, 1, 1, 0);
    }

    static void p39ThatCameToAnEnd() {
        AsleepPass x = three();
        cells(x, 0, 0, 9, 9);
        read(x, 0, 1, 0, 1, 0, CAST);
        Check.due("BAD", x.read(0, 0, 0, 21), BAD);
        Check.due("torn() stays", x.torn(), CAST);
        Check.due("the first is BAD", x.read(0, 0, 0, 1), -20);
        Check.due("torn() stays", x.torn(), CAST);
    }

    static void p39NotOfLayAndSheet() {
        AsleepPass x = three();
        x.lay(0, 0, 0);
        Check.due("torn() behind lay()", x.torn(), 0);
        x.sheet(0, 0, -1);
        Check.due("torn() behind sheet()", x.torn(), 0);
        read(x, 0, 0, 0, 1, 0, NULL);
        x.sheet(0, 0, 2);
        x.lay(0, 1, 1);
        Check.due("torn() stays", x.torn(), NULL);
    }

    // ---- 40: count

    static void p40Most() {
        AsleepPass x = Check.told("stretch0 0;".repeat(10) + "bearer plain0 0;bearer plain0 0;");
        for (int n = 0; n < 9; n++) {
            x.learn(0, 0, 0, 0);
            x.mark(0, 4);
        }
        x.keep(0);
        x.keep(1);
        for (int n = 0; n < 41; n++) {
            x.feed(0);
        }
        x.sheet(0, 0, 40);
        for (int i = 1; i < 10; i += 2) {
            x.put(i, 1);
        }
        int[] want = {8, 6, 2, 320, 40, 9};
        for (int what = 0; what < 6; what++) {
            Check.due("count(" + what + ")", x.count(what), want[what]);
        }
    }

    static void p40NoneNothingOnSheetZero() {
        AsleepPass x = new AsleepPass();
        x.sheet(1, 0, 3);
        x.sheet(2, 0, 3);
        x.sheet(3, 0, 3);
        Check.due("count(4)", x.count(4), NONE);
        x.sheet(0, 2, 0);
        Check.due("count(4)", x.count(4), 0);
    }

    static void p40HandOversToAnotherOne() {
        AsleepPass x = three();
        Check.due("none", x.count(5), 0);
        x.put(0, 1);
        Check.due("from 1 to 0", x.count(5), 1);
        x.put(2, 1);
        Check.due("there and back", x.count(5), 2);
        x.put(1, 1);
        Check.due("all by 1", x.count(5), 0);
        Check.due("on one STRETCH", Check.told("stretch 0 0;bearer plain 0 0;").count(5), 0);
        Check.due("on no way", new AsleepPass().count(5), 0);
    }

    static void p40HandOversOfAlikeOnesCount() {
        AsleepPass x = Check.told("stretch 0 0;stretch 0 0;bearer twin 5 5;bearer twin 5 5;carry 1 1;");
        Check.due("count(5)", x.count(5), 1);
    }

    static void p40Bad() {
        AsleepPass x = three();
        for (int what : new int[] {-1, 6, 7, NONE, Integer.MAX_VALUE, Integer.MIN_VALUE}) {
            Check.due("count(" + what + ")", x.count(what), BAD);
        }
    }
}
