/** Promises 22 to 25: quiet, drop, swap, carry. */
public final class AdviceTest {
    private static final int BAD = AsleepPass.BAD;
    private static final int NONE = AsleepPass.NONE;

    public static void main(String[] args) {
        quietStops();
        quietOfSeveral();
        dropGives();
        swapChanges();
        swapIsRefused();
        carryCrosses();
        nothingChanges();
        Check.finish();
    }

    private static void quietStops() {
        AsleepPass x = Check.told("start 1;stretch 4 1;stretch 9 0;stretch 8 0;bearer plain 0 0;");
        // HARM 5, 9, 8: awake at once, or behind the third from DEPTH 2 by two falls.
        Check.fraction("quiet(0)", x.quiet(0, 0), x.quiet(0, 1), 77, 200);
        Check.due("quiet(0, 2)", x.quiet(0, 2), 0);
        // By 1: the first stopped leaves 1/20 + 19/20 * 72/400.
        Check.fraction("quiet(1)", x.quiet(1, 0), x.quiet(1, 1), 221, 1000);
        Check.due("quiet(1, 2)", x.quiet(1, 2), 1);
        Check.fraction("quiet(2)", x.quiet(2, 0), x.quiet(2, 1), 1, 20);
        Check.due("quiet(2, 2), the least set", x.quiet(2, 2), 3);
        Check.due("quiet(3, 2), the fewest", x.quiet(3, 2), 3);
        Check.due("quiet(4, 2)", x.quiet(4, 2), 3);
        for (int what = 0; what < 3; what++) {
            Check.due("quiet(-1, " + what + ")", x.quiet(-1, what), BAD);
            Check.due("quiet(5, " + what + ")", x.quiet(5, what), BAD);
        }
        Check.due("quiet(1, 3)", x.quiet(1, 3), BAD);
        Check.due("quiet(1, -1)", x.quiet(1, -1), BAD);
        Check.due("NOISE stays", x.stretch(0, 0), 4);
    }

    private static void quietOfSeveral() {
        AsleepPass x = Check.told("start 9;stretch 9 9;stretch 9 9;bearer plain 0 0;");
        Check.due("nothing to stop where it can't wake", x.quiet(4, 2), 0);
        Check.fraction("quiet(4)", x.quiet(4, 0), x.quiet(4, 1), 0, 1);
        // Two falls wake it; either one stopped is as good.
        Check.tell(x, "start 2;stretch 5 0;stretch 5 0;bearer plain 0 0;");
        Check.due("the least of two", x.quiet(1, 2), 1);
        Check.tell(x, "start 1;" + "stretch 9 9;".repeat(10) + "bearer plain 0 0;");
        Check.due("the first four", x.quiet(4, 2), 15);
        // A hummer stops little NOISE himself.
        Check.tell(x, "start 1;stretch 2 3;bearer hummer 0 0;");
        Check.due("NOISE that does not count", x.quiet(2, 2), 0);
        Check.due("quiet(4, 2) of nothing", new AsleepPass().quiet(4, 2), 0);
        Check.fraction("quiet of nothing", new AsleepPass().quiet(4, 0), new AsleepPass().quiet(4, 1), 0, 1);
    }

    private static void dropGives() {
        AsleepPass x = Check.told("start 1;stretch 0 0;stretch 5 0;stretch 5 0;stretch 5 0;bearer plain 0 0;");
        // DEPTH 2 behind the first, surely; with a DROP at 4 behind it, and three falls do not wake it.
        Check.fraction("drop", x.drop(0), x.drop(1), 0, 1);
        Check.due("drop(2), the first of several", x.drop(2), 0);
        Check.tell(x, "start 8;" + "stretch 9 9;".repeat(10) + "bearer plain 0 9;bearer plain 9 0;"
            + "carry 1 1;carry 3 1;carry 5 1;carry 7 1;carry 9 1;");
        Check.dueTrue("a DROP at DEPTH 8 gives less than later", x.drop(2) > 0);
        Check.tell(x, "start 1;stretch 9 0;stretch 9 9;bearer plain 0 0;");
        // Ahead of the first: DEPTH 3, no two falls wake it.
        Check.fraction("drop", x.drop(0), x.drop(1), 0, 1);
        Check.tell(x, "start 1;stretch 0 0;stretch 9 9;stretch 9 9;stretch 9 9;stretch 9 9;bearer plain 0 0;");
        // DEPTH 4 behind the first: four falls by 9 of 10 each.
        Check.fraction("drop", x.drop(0), x.drop(1), 6561, 10000);
        Check.due("drop(2)", x.drop(2), 0);
        Check.tell(x, "start 1;stretch 9 9;stretch 9 9;stretch 9 9;stretch 0 0;bearer plain 0 0;");
        // Whoever is awake stays awake: a DROP ahead of the last one is too late.
        Check.fraction("drop", x.drop(0), x.drop(1), 729, 1000);
        Check.due("drop(2)", x.drop(2), 0);
        Check.tell(x, "start 9;" + "stretch 9 9;".repeat(9) + "bearer plain 0 0;");
        // At 9 a DROP does nothing; after one fall it lifts by one, after two by two.
        Check.due("drop(2), not ahead of the first", x.drop(2), 1);
        Check.fraction("drop", x.drop(0), x.drop(1), 0, 1);
        Check.due("drop(3)", x.drop(3), BAD);
        Check.due("drop(-1)", x.drop(-1), BAD);
        Check.due("drop(0) where there are none", new AsleepPass().drop(0), AsleepPass.STATE);
        Check.due("drop(2) where there are none", new AsleepPass().drop(2), AsleepPass.STATE);
        Check.due("drop(3) where there are none", new AsleepPass().drop(3), BAD);
    }

    private static void swapChanges() {
        // On STRETCH 0 warm hands count, on STRETCH 2 they do not.
        AsleepPass x = Check.told("start 1;stretch 0 9;stretch 0 0;stretch 0 0;bearer plain 0 0;bearer plain 0 9;carry 2 1;");
        Check.fraction("wakes", x.wakes(0), x.wakes(1), 9, 20);
        Check.fraction("swap", x.swap(0), x.swap(1), 0, 1);
        Check.due("swap(2)", x.swap(2), 2);
        x.put(1, 1);
        Check.due("swap(2), of several the first", x.swap(2), 1);
        Check.due("swap(3)", x.swap(3), BAD);
        Check.due("swap(-1)", x.swap(-1), BAD);
        Check.tell(x, "start 1;stretch 0 0;stretch 0 0;stretch 0 9;stretch 0 0;stretch 0 9;"
            + "bearer plain 0 0;bearer plain 0 9;carry 3 1;carry 4 1;");
        x.start(2);
        Check.due("wakes(0)", x.wakes(0), 0);
        x.cold(0, 9);
        x.cold(1, 9);
        // HARM 9, 9, 9, 0, 0: two falls from DEPTH 2 wake it, or three of four.
        Check.due("swap(2)", x.swap(2), 3);
        Check.tell(x, "start 1;stretch 0 0;stretch 0 0;stretch 0 0;stretch 0 9;stretch 0 9;stretch 0 9;"
            + "bearer plain 0 0;bearer plain 0 9;carry 0 1;carry 4 1;");
        // DEPTH 4 ahead of HARM 9, 0, 9: it does not wake.
        Check.due("swap(2)", x.swap(2), NONE);
        Check.tell(x, "start 1;stretch 0 0;stretch 0 9;stretch 0 9;stretch 0 0;bearer plain 0 0;bearer plain 0 9;carry 3 1;");
        // DEPTH 2 behind the first, then two falls by 9 of 20 each.
        Check.fraction("wakes", x.wakes(0), x.wakes(1), 81, 400);
        Check.due("swap(2)", x.swap(2), 13);
        Check.fraction("swap", x.swap(0), x.swap(1), 0, 1);
        Check.tell(x, "start 1;stretch 1 9;stretch 2 4;bearer plain 0 0;bearer plain 7 8;carry 1 1;");
        // HARM 10, then 9 which can't wake it; changed: HARM 2.
        Check.fraction("swap", x.swap(0), x.swap(1), 1, 10);
        Check.tell(x, "start 2;stretch 1 9;stretch 2 4;stretch 5 1;bearer plain 0 0;bearer plain 7 8;bearer twin 3 3;"
            + "carry 1 1;carry 2 2;");
        Check.due("swap(2)", x.swap(2), 1);
        // Changed: HARM 2, 13, 8 from DEPTH 2: 2 of 20 by 13 of 20.
        Check.fraction("swap", x.swap(0), x.swap(1), 13, 200);
    }

    private static void swapIsRefused() {
        AsleepPass x = Check.told("start 1;stretch 0 9;stretch 0 0;bearer plain 0 9;bearer plain 0 0;carry 1 1;");
        for (int what = 0; what < 3; what++) {
            Check.due("swap(" + what + "), none is better", x.swap(what), NONE);
            Check.due("swap(" + what + "), no STRETCHES", new AsleepPass().swap(what), NONE);
        }
        x.put(1, 0);
        Check.due("swap(2), the same BEARER", x.swap(2), NONE);
        Check.tell(x, "start 1;stretch 9 9;bearer plain 0 0;");
        Check.due("swap(2), one STRETCH", x.swap(2), NONE);
    }

    /** The drawn numbers, worked out with unbounded integers. */
    private static int[] drawn(int seed, int many) {
        int[] all = new int[many];
        java.math.BigInteger now = java.math.BigInteger.valueOf(seed);
        for (int n = 0; n < many; n++) {
            now = now.multiply(java.math.BigInteger.valueOf(1103515245)).add(java.math.BigInteger.valueOf(12345));
            all[n] = now.shiftRight(16).and(java.math.BigInteger.valueOf(32767)).intValue() % 20;
        }
        return all;
    }

    private static void carryCrosses() {
        AsleepPass x = Check.told("start 3;" + "stretch 9 3;".repeat(10) + "bearer plain 0 0;");
        boolean woke = false;
        boolean slept = false;
        for (int seed : new int[] {0, 1, 2, 3, 77, -1, -77, 4711, 123456789, Integer.MAX_VALUE, Integer.MIN_VALUE}) {
            int[] numbers = drawn(seed, 10);
            int depth = 3;
            int falls = 0;
            int wakes = NONE;
            for (int i = 0; i < 10 && depth > 0; i++) {
                if (numbers[i] < 12) {
                    depth--;
                    falls++;
                    wakes = depth == 0 ? i : NONE;
                } else if (depth < 9) {
                    depth++;
                }
            }
            woke |= depth == 0;
            slept |= depth > 0;
            Check.due("carry(" + seed + ", 0)", x.carry(seed, 0), depth);
            Check.due("carry(" + seed + ", 1)", x.carry(seed, 1), falls);
            Check.due("carry(" + seed + ", 2)", x.carry(seed, 2), wakes);
        }
        Check.dueTrue("some wake, some sleep", woke && slept);
        Check.due("carry(1, 3)", x.carry(1, 3), BAD);
        Check.due("carry(1, -1)", x.carry(1, -1), BAD);
        Check.tell(x, "start 8;" + "stretch 0 0;".repeat(5) + "bearer plain 0 0;");
        Check.due("at 9 it stays", x.carry(1, 0), 9);
        Check.due("no falls", x.carry(1, 1), 0);
        Check.due("it does not wake", x.carry(1, 2), NONE);
        Check.due("DEPTH on no way", new AsleepPass().carry(9, 0), 5);
        Check.due("falls on no way", new AsleepPass().carry(9, 1), 0);
        Check.due("carry(9, 3) on no way", new AsleepPass().carry(9, 3), BAD);
    }

    private static void nothingChanges() {
        AsleepPass x = Check.told("start 2;stretch 4 1;stretch 9 8;stretch 8 3;bearer plain 0 0;bearer twin 5 5;carry 0 1;");
        String was = Check.state(x);
        for (int what = 0; what < 3; what++) {
            x.quiet(3, what);
            x.drop(what);
            x.swap(what);
            x.carry(5, what);
            x.steps(0, what);
        }
        Check.dueTrue("what is asked changes nothing", was.equals(Check.state(x)));
    }
}
