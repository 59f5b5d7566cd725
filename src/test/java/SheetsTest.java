/** Promises 36 to 39: sheet, lay, read, torn. */
public final class SheetsTest {
    private static final int BAD = AsleepPass.BAD;

    public static void main(String[] args) {
        sheetAndLay();
        theLowestBits();
        readComes();
        readIsTorn();
        readIsBad();
        theEndOfAllInts();
        Check.finish();
    }

    private static void sheetAndLay() {
        AsleepPass x = new AsleepPass();
        for (int k : new int[] {-1, 4, Integer.MAX_VALUE, Integer.MIN_VALUE}) {
            Check.due("sheet(" + k + ", 0, 1)", x.sheet(k, 0, 1), BAD);
            Check.due("sheet(" + k + ", 0, -1)", x.sheet(k, 0, -1), BAD);
            Check.due("lay(" + k + ", 0, 0)", x.lay(k, 0, 0), BAD);
        }
        Check.due("sheet(0, 3, 1)", x.sheet(0, 3, 1), BAD);
        Check.due("sheet(0, -1, 1)", x.sheet(0, -1, 1), BAD);
        Check.due("sheet(0, -1, -1)", x.sheet(0, -1, -1), BAD);
        Check.due("sheet(0, 0, 41)", x.sheet(0, 0, 41), BAD);
        Check.due("sheet(0, 0, -1)", x.sheet(0, 0, -1), -14);
        Check.due("sheet(0, 0, MIN)", x.sheet(0, 0, Integer.MIN_VALUE), -14);
        Check.due("lay(0, 0, 0) on nothing", x.lay(0, 0, 0), -11);
        Check.due("lay(0, -1, 0) on nothing", x.lay(0, -1, 0), -11);
        Check.due("sheet(0, 0, 40)", x.sheet(0, 0, 40), 1);
        Check.due("lay(0, 39, 1)", x.lay(0, 39, 1), 1);
        Check.due("lay(0, 40, 1)", x.lay(0, 40, 1), -12);
        Check.due("lay(0, -1, 1)", x.lay(0, -1, 1), -12);
        Check.due("sheet(0, 1, -5)", x.sheet(0, 1, -5), -14);
        Check.due("the SHEET stays as it was", x.count(4), 40);
        Check.due("sheet(3, 2, 0)", x.sheet(3, 2, 0), 1);
        Check.due("lay(3, 0, 1)", x.lay(3, 0, 1), -12);
        Check.due("lay(2, 0, 1)", x.lay(2, 0, 1), -11);
    }

    private static AsleepPass threeByThree() {
        return Check.told("stretch 1 1;stretch 1 1;stretch 1 1;bearer plain 0 0;bearer plain 0 0;bearer plain 0 0;");
    }

    private static String order(AsleepPass x) {
        return "" + x.stretch(0, 2) + x.stretch(1, 2) + x.stretch(2, 2);
    }

    private static void theLowestBits() {
        AsleepPass x = threeByThree();
        int[] more = {256, 65536, 0};
        for (int lane = 0; lane < 3; lane++) {
            x.sheet(lane, lane, 2);
            x.lay(lane, 0, 2 + more[lane]);
            x.lay(lane, 1, lane - 3 * more[lane]);
            Check.due("read of lane " + lane, x.read(lane, lane, 0, 1), 1);
            Check.due("stretch(2, 2)", x.stretch(2, 2), lane);
        }
        x.lay(1, 0, 256);
        Check.due("SHORTS hold 256", x.read(1, 1, 0, 1), -20);
        x.lay(2, 0, 65536);
        Check.due("INTS hold 65536", x.read(2, 2, 0, 1), -20);
        x.lay(0, 0, -1);
        Check.due("BYTES hold -1", x.read(0, 0, 0, 1), -20);
        x.lay(0, 0, 255);
        Check.due("BYTES hold -1", x.read(0, 0, 0, 1), -20);
        x.sheet(0, 0, 2);
        x.put(0, 2);
        x.put(1, 2);
        Check.due("CELLS are 0 again", x.read(0, 0, 0, 1), 1);
        Check.due("stretch(0, 2)", x.stretch(0, 2), 0);
        Check.due("stretch(1, 2)", x.stretch(1, 2), 2);
    }

    private static void lay(AsleepPass x, int k, int... cells) {
        for (int i = 0; i < cells.length; i++) {
            x.lay(k, i, cells[i]);
        }
    }

    private static void readComes() {
        AsleepPass x = threeByThree();
        x.sheet(0, 2, 6);
        lay(x, 0, 2, 1, 0, 2, 2, 2);
        Check.due("read(0, 2, 0, 0)", x.read(0, 2, 0, 0), 0);
        Check.dueTrue("none came", order(x).equals("000"));
        Check.due("read(0, 2, 0, 1)", x.read(0, 2, 0, 1), 1);
        Check.dueTrue("the first came", order(x).equals("001"));
        Check.due("read(0, 2, 0, 3)", x.read(0, 2, 0, 3), 3);
        Check.dueTrue("all came, the later one stays", order(x).equals("202"));
        Check.due("torn()", x.torn(), 0);
        Check.due("read(0, 2, 1, 2), from an odd CELL", x.read(0, 2, 1, 2), 2);
        Check.dueTrue("(1, 0), (2, 2)", order(x).equals("202"));
        x.sheet(1, 0, 40);
        Check.due("read(1, 0, 0, 20)", x.read(1, 0, 0, 20), 20);
        Check.due("torn()", x.torn(), 0);
    }

    private static void readIsTorn() {
        AsleepPass x = threeByThree();
        x.sheet(0, 1, 5);
        lay(x, 0, 1, 1, 2, 2, 7);
        Check.due("two are whole", x.read(0, 1, 0, 3), 2);
        Check.due("torn() INDEX", x.torn(), 2);
        Check.dueTrue("they came", order(x).equals("012"));
        Check.due("read behind the end", x.read(0, 1, 5, 1), 0);
        Check.due("torn()", x.torn(), 2);
        Check.due("read of none behind the end", x.read(0, 1, 99, 0), 0);
        Check.due("torn()", x.torn(), 0);
        Check.due("another lane", x.read(0, 0, 0, 1), 0);
        Check.due("torn() CAST", x.torn(), 3);
        Check.due("another lane ahead of INDEX", x.read(0, 2, -1, 1), 0);
        Check.due("torn() CAST", x.torn(), 3);
        Check.due("nothing", x.read(3, 0, -1, 1), 0);
        Check.due("torn() NULL", x.torn(), 1);
        Check.due("none of nothing: no CELL is looked at", x.read(3, 0, 0, 0), 0);
        Check.due("torn()", x.torn(), 0);
        Check.due("none of another lane: it is taken as such", x.read(0, 2, 0, 0), 0);
        Check.due("torn()", x.torn(), 3);
        Check.dueTrue("nothing else came", order(x).equals("012"));
        Check.due("from ahead of CELL 0", x.read(0, 1, -2, 3), 0);
        Check.due("torn()", x.torn(), 2);
    }

    private static void readIsBad() {
        AsleepPass x = threeByThree();
        x.sheet(0, 1, 7);
        lay(x, 0, 1, 1, 2, 3, 3, 0, 9);
        Check.due("make it torn", x.read(1, 1, 0, 1), 0);
        Check.due("the second is BAD", x.read(0, 1, 0, 4), -21);
        Check.dueTrue("none came", order(x).equals("000"));
        Check.due("torn() of the one before", x.torn(), 1);
        Check.due("the first is BAD", x.read(0, 1, 4, 1), -20);
        Check.due("one that is not whole is not BAD", x.read(0, 1, 6, 1), 0);
        Check.due("torn()", x.torn(), 2);
        x.lay(0, 3, 2);
        x.lay(0, 5, -1);
        Check.due("the third is BAD", x.read(0, 1, 0, 3), -22);
        x.lay(0, 4, 0);
        Check.due("the third is BAD by its BEARER", x.read(0, 1, 0, 20), -22);
        Check.due("two come", x.read(0, 1, 0, 2), 2);
        Check.due("torn()", x.torn(), 0);
        for (int out : new int[] {-1, Integer.MIN_VALUE, Integer.MAX_VALUE}) {
            Check.due("k " + out, x.read(out, 1, 0, 1), BAD);
            Check.due("lane " + out, x.read(0, out, 0, 1), BAD);
            Check.due("n " + out, x.read(0, 1, 0, out), BAD);
        }
        Check.due("k 4", x.read(4, 1, 0, 1), BAD);
        Check.due("lane 3", x.read(0, 3, 0, 1), BAD);
        Check.due("n 21", x.read(0, 1, 0, 21), BAD);
        Check.due("n 21 of nothing", x.read(2, 1, 0, 21), BAD);
        Check.due("torn() stays", x.torn(), 0);
        AsleepPass none = new AsleepPass();
        none.sheet(0, 0, 2);
        Check.due("there is no STRETCH", none.read(0, 0, 0, 1), -20);
    }

    private static void theEndOfAllInts() {
        AsleepPass x = threeByThree();
        x.sheet(0, 0, 40);
        for (int f : new int[] {Integer.MAX_VALUE, Integer.MAX_VALUE - 1, Integer.MIN_VALUE, -1, 40, 39}) {
            Check.due("read(0, 0, " + f + ", 20)", x.read(0, 0, f, 20), 0);
            Check.due("torn()", x.torn(), 2);
        }
        Check.due("read(0, 0, 38, 20)", x.read(0, 0, 38, 20), 1);
        Check.due("torn()", x.torn(), 2);
        Check.due("lay(0, MAX, 0)", x.lay(0, Integer.MAX_VALUE, 0), -12);
        Check.due("lay(0, MIN, 0)", x.lay(0, Integer.MIN_VALUE, 0), -12);
    }
}
