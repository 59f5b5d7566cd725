/** Promises 15 to 18: harm, wakes, awake, depth. */
public final class OddsTest {
    private static final int BAD = AsleepPass.BAD;
    private static final int NONE = AsleepPass.NONE;

    public static void main(String[] args) {
        harmOfKinds();
        harmOfHands();
        harmRefused();
        oddsOfOneAndTwo();
        depthStaysAtNine();
        lowestTerms();
        allTenStretches();
        oddsRefused();
        Check.finish();
    }

    private static void harmOfKinds() {
        AsleepPass x = Check.told("stretch 1 0;stretch 2 5;stretch 0 4;stretch 9 9;"
            + "bearer plain 0 3;bearer hummer 0 3;bearer trembler 0 3;bearer tall 0 3;bearer twin 0 3;bearer paid 0 3;");
        int[][] want = {{1, 0, 1, 0, 1, 1}, {4, 2, 5, 3, 4, 4}, {1, 1, 1, 1, 1, 1}, {15, 13, 16, 14, 15, 15}};
        for (int i = 0; i < 4; i++) {
            for (int b = 0; b < 6; b++) {
                Check.due("harm(" + i + ", NONE, " + b + ")", x.harm(i, NONE, b), want[i][b]);
                Check.due("harm(" + i + ", b, " + b + ")", x.harm(i, b, b), want[i][b]);
            }
        }
        x.warm(2, 9);
        x.cold(1, 5);
        Check.due("a trembler with warm hands, COLD 5", x.harm(1, NONE, 2), 3);
        x.cold(1, 4);
        Check.due("a trembler with warm hands, COLD 4", x.harm(1, NONE, 2), 2);
    }

    private static void harmOfHands() {
        AsleepPass x = Check.told("stretch 0 0;stretch 9 9;bearer plain 2 0;bearer twin 9 0;bearer twin 0 0;"
            + "bearer paid 5 0;bearer paid 8 0;bearer tall 2 9;");
        Check.due("plain to twin", x.harm(0, 0, 1), 7);
        Check.due("twin to plain", x.harm(0, 1, 0), 7);
        Check.due("twin to twin", x.harm(0, 1, 2), 0);
        Check.due("twin to twin", x.harm(0, 2, 1), 0);
        Check.due("plain to paid, half of 3", x.harm(0, 0, 3), 1);
        Check.due("paid to plain", x.harm(0, 3, 0), 3);
        Check.due("paid to paid, half of 3", x.harm(0, 4, 3), 1);
        Check.due("twin to paid, half of 5", x.harm(0, 2, 3), 2);
        Check.due("same STEPS", x.harm(0, 0, 5), 0);
        Check.due("20 at most", x.harm(1, 2, 1), 18);
        Check.due("20 at most", x.harm(1, 1, 0), 20);
        Check.due("20 at most", x.harm(1, 0, 4), 20);
        Check.due("20 at most", x.harm(1, 0, 3), 19);
    }

    private static void harmRefused() {
        AsleepPass x = Check.told("stretch 0 0;bearer plain 2 0;bearer plain 2 0;");
        Check.due("harm(1, 0, 0)", x.harm(1, 0, 0), BAD);
        Check.due("harm(-1, 0, 0)", x.harm(-1, 0, 0), BAD);
        Check.due("harm(0, 2, 0)", x.harm(0, 2, 0), BAD);
        Check.due("harm(0, -1, 0)", x.harm(0, -1, 0), BAD);
        Check.due("harm(0, -5, 0)", x.harm(0, -5, 0), BAD);
        Check.due("harm(0, 0, 2)", x.harm(0, 0, 2), BAD);
        Check.due("harm(0, 0, NONE)", x.harm(0, 0, NONE), BAD);
        Check.due("harm(0, NONE, 1)", x.harm(0, NONE, 1), 0);
    }

    private static void oddsOfOneAndTwo() {
        // HARM 4, then 5 and 3 by the hand over.
        AsleepPass x = Check.told("start 2;stretch 4 0;stretch 5 0;bearer plain 1 0;bearer plain 4 0;carry 1 1;");
        Check.fraction("awake(0)", x.awake(0, 0), x.awake(0, 1), 0, 1);
        Check.fraction("depth(0, 1)", x.depth(0, 1, 0), x.depth(0, 1, 1), 1, 5);
        Check.fraction("depth(0, 2)", x.depth(0, 2, 0), x.depth(0, 2, 1), 0, 1);
        Check.fraction("depth(0, 3)", x.depth(0, 3, 0), x.depth(0, 3, 1), 4, 5);
        Check.fraction("awake(1)", x.awake(1, 0), x.awake(1, 1), 2, 25);
        Check.fraction("depth(1, 0)", x.depth(1, 0, 0), x.depth(1, 0, 1), 2, 25);
        Check.fraction("depth(1, 2)", x.depth(1, 2, 0), x.depth(1, 2, 1), 11, 25);
        Check.fraction("depth(1, 4)", x.depth(1, 4, 0), x.depth(1, 4, 1), 12, 25);
        Check.fraction("wakes", x.wakes(0), x.wakes(1), 2, 25);
        x.start(1);
        Check.fraction("awake stays awake", x.awake(1, 0), x.awake(1, 1), 1, 5);
        Check.fraction("depth(1, 1)", x.depth(1, 1, 0), x.depth(1, 1, 1), 8, 25);
        Check.fraction("depth(1, 3)", x.depth(1, 3, 0), x.depth(1, 3, 1), 12, 25);
    }

    private static void depthStaysAtNine() {
        AsleepPass x = Check.told("start 9;stretch 5 0;stretch 0 0;bearer plain 1 0;");
        Check.fraction("depth(0, 9)", x.depth(0, 9, 0), x.depth(0, 9, 1), 3, 4);
        Check.fraction("depth(0, 8)", x.depth(0, 8, 0), x.depth(0, 8, 1), 1, 4);
        Check.fraction("depth(1, 9)", x.depth(1, 9, 0), x.depth(1, 9, 1), 1, 1);
        Check.fraction("wakes", x.wakes(0), x.wakes(1), 0, 1);
    }

    private static void lowestTerms() {
        AsleepPass x = Check.told("start 1;stretch 9 9;bearer plain 0 0;");
        Check.fraction("wakes", x.wakes(0), x.wakes(1), 9, 10);
        x.cold(0, 0);
        Check.fraction("wakes", x.wakes(0), x.wakes(1), 9, 20);
        Check.tell(x, "start 1;stretch 9 9;stretch 9 9;bearer plain 9 0;bearer plain 0 0;carry 1 1;");
        x.start(2);
        Check.fraction("surely on the second", x.wakes(0), x.wakes(1), 9, 10);
        Check.tell(x, "");
        Check.fraction("wakes on no way", x.wakes(0), x.wakes(1), 0, 1);
    }

    private static void allTenStretches() {
        AsleepPass x = Check.told("start 9;" + "stretch 1 0;".repeat(10) + "bearer plain 0 0;");
        // From DEPTH 9 it wakes by nine falls alone, or by staying at 9 once and nine falls then.
        Check.fraction("awake(8)", x.awake(8, 0), x.awake(8, 1), 1, 512000000000L);
        Check.fraction("wakes", x.wakes(0), x.wakes(1), 39, 10240000000000L);
        x = Check.told("start 9;" + "stretch 9 9;".repeat(10) + "bearer plain 0 0;bearer plain 9 0;"
            + "carry 1 1;carry 3 1;carry 5 1;carry 7 1;carry 9 1;");
        Check.fraction("18 of 20, then surely", x.awake(8, 0), x.awake(8, 1), 9, 10);
        Check.fraction("surely", x.wakes(0), x.wakes(1), 1, 1);
    }

    private static void oddsRefused() {
        AsleepPass x = Check.told("stretch 1 0;bearer plain 0 0;");
        for (int what : new int[] {-1, 2, 3, Integer.MAX_VALUE, Integer.MIN_VALUE}) {
            Check.due("wakes(" + what + ")", x.wakes(what), BAD);
            Check.due("awake(0, " + what + ")", x.awake(0, what), BAD);
            Check.due("depth(0, 5, " + what + ")", x.depth(0, 5, what), BAD);
        }
        for (int i : new int[] {-1, 1, 10, Integer.MAX_VALUE, Integer.MIN_VALUE}) {
            Check.due("awake(" + i + ", 0)", x.awake(i, 0), BAD);
            Check.due("depth(" + i + ", 0, 0)", x.depth(i, 0, 0), BAD);
        }
        for (int d : new int[] {-1, 10, Integer.MAX_VALUE, Integer.MIN_VALUE}) {
            Check.due("depth(0, " + d + ", 0)", x.depth(0, d, 0), BAD);
        }
    }
}
