/** Edges of promises 15 to 18: harm, wakes, awake, depth; of HARM, of DEPTH and of fractions. */
final class OddsEdges {
    private static final int BAD = AsleepPass.BAD;
    private static final int NONE = AsleepPass.NONE;
    private static final int[] NO_PART = {-1, 2, 3, NONE, Integer.MAX_VALUE, Integer.MIN_VALUE};
    private static final int[] NOT_THERE = {-1, -2, -3, -5, 2, 6, 10, Integer.MAX_VALUE, Integer.MIN_VALUE};

    private OddsEdges() {
    }

    /** HARM from nobody, of one STRETCH by one BEARER. */
    private static int harm(int noise, int cold, String kind, int warmth) {
        AsleepPass x = Check.told("stretch " + noise + " " + cold + ";bearer " + kind + " 5 " + warmth + ";");
        return x.harm(0, NONE, 0);
    }

    /** HARM of a STRETCH without NOISE and COLD by one from another. */
    private static int jolt(String giver, int from, String taker, int to) {
        AsleepPass x = Check.told("stretch 0 0;bearer " + giver + " " + from + " 0;bearer " + taker + " " + to + " 0;");
        return x.harm(0, 0, 1);
    }

    private static void wakes(AsleepPass x, long above, long below) {
        Check.fraction("wakes", x.wakes(0), x.wakes(1), above, below);
    }

    private static void awake(AsleepPass x, int i, long above, long below) {
        Check.fraction("awake(" + i + ")", x.awake(i, 0), x.awake(i, 1), above, below);
    }

    private static void depth(AsleepPass x, int i, int d, long above, long below) {
        Check.fraction("depth(" + i + ", " + d + ")", x.depth(i, d, 0), x.depth(i, d, 1), above, below);
    }

    // ---- 15: harm

    static void p15NoiseOfAHummerTwoLess() {
        int[] want = {0, 0, 0, 1, 2, 3, 4, 5, 6, 7};
        for (int noise = 0; noise < 10; noise++) {
            Check.due("NOISE " + noise, harm(noise, 0, "hummer", 0), want[noise]);
        }
        Check.due("0 at least: nothing is taken off COLD", harm(1, 3, "hummer", 0), 3);
    }

    static void p15NoiseOfATallOneOneLess() {
        int[] want = {0, 0, 1, 2, 3, 4, 5, 6, 7, 8};
        for (int noise = 0; noise < 10; noise++) {
            Check.due("NOISE " + noise, harm(noise, 0, "tall", 0), want[noise]);
        }
        Check.due("0 at least: nothing is taken off COLD", harm(0, 3, "tall", 0), 3);
    }

    static void p15NoiseOfTheOthersAll() {
        for (String kind : new String[] {"plain", "trembler", "twin", "paid"}) {
            Check.due(kind + ", NOISE 0", harm(0, 0, kind, 0), 0);
            Check.due(kind + ", NOISE 1", harm(1, 0, kind, 0), 1);
            Check.due(kind + ", NOISE 9", harm(9, 0, kind, 0), 9);
        }
    }

    static void p15ColdLessWarmthZeroAtLeast() {
        for (String kind : new String[] {"plain", "hummer", "tall", "twin", "paid"}) {
            Check.due(kind + ", as warm as cold", harm(0, 5, kind, 5), 0);
            Check.due(kind + ", warmer", harm(0, 5, kind, 6), 0);
            Check.due(kind + ", by far warmer", harm(0, 0, kind, 9), 0);
            Check.due(kind + ", colder", harm(0, 5, kind, 4), 1);
            Check.due(kind + ", by far colder", harm(0, 9, kind, 0), 9);
        }
        Check.due("0 at least: nothing is taken off NOISE", harm(4, 1, "plain", 9), 4);
    }

    static void p15ATremblerOneMoreFromColdFive() {
        Check.due("COLD 0", harm(0, 0, "trembler", 0), 0);
        Check.due("COLD 4", harm(0, 4, "trembler", 0), 4);
        Check.due("COLD 5", harm(0, 5, "trembler", 0), 6);
        Check.due("COLD 9", harm(0, 9, "trembler", 0), 10);
        Check.due("COLD 5, less WARMTH 2", harm(0, 5, "trembler", 2), 4);
        Check.due("COLD 9, not what is left of it", harm(0, 9, "trembler", 8), 2);
    }

    static void p15ATremblerWithWarmHands() {
        Check.due("COLD 5, WARMTH 5", harm(0, 5, "trembler", 5), 1);
        Check.due("COLD 5, WARMTH 9", harm(0, 5, "trembler", 9), 1);
        Check.due("COLD 4, WARMTH 9", harm(0, 4, "trembler", 9), 0);
    }

    static void p15FromNobody() {
        AsleepPass x = Check.told("stretch 0 0;bearer plain 9 0;bearer twin 0 0;");
        Check.due("harm(0, NONE, 0)", x.harm(0, NONE, 0), 0);
        Check.due("harm(0, NONE, 1)", x.harm(0, NONE, 1), 0);
        Check.due("from another", x.harm(0, 1, 0), 9);
    }

    static void p15FromNobodyOnALaterStretch() {
        AsleepPass x = Check.told("stretch 0 0;stretch 3 0;bearer plain 9 0;bearer plain 0 0;");
        Check.due("harm(1, NONE, 0)", x.harm(1, NONE, 0), 3);
        Check.due("harm(1, 1, 0)", x.harm(1, 1, 0), 12);
    }

    static void p15FromTheSame() {
        AsleepPass x = Check.told("stretch 0 0;bearer plain 9 0;bearer paid 3 0;");
        Check.due("harm(0, 0, 0)", x.harm(0, 0, 0), 0);
        Check.due("harm(0, 1, 1)", x.harm(0, 1, 1), 0);
    }

    static void p15HowFarStepsDiffer() {
        Check.due("0 to 9", jolt("plain", 0, "plain", 9), 9);
        Check.due("9 to 0", jolt("plain", 9, "plain", 0), 9);
        Check.due("4 to 5", jolt("hummer", 4, "trembler", 5), 1);
        Check.due("5 to 5", jolt("tall", 5, "plain", 5), 0);
    }

    static void p15OfTwoTwinsNothing() {
        Check.due("twin to twin", jolt("twin", 0, "twin", 9), 0);
        Check.due("twin to plain", jolt("twin", 0, "plain", 9), 9);
        Check.due("plain to twin", jolt("plain", 0, "twin", 9), 9);
        Check.due("twin to paid", jolt("twin", 0, "paid", 9), 4);
        Check.due("paid to twin", jolt("paid", 0, "twin", 9), 9);
    }

    static void p15HalfOfItIfBIsPaid() {
        for (int apart = 0; apart < 10; apart++) {
            Check.due("up by " + apart, jolt("plain", 0, "paid", apart), apart / 2);
            Check.due("down by " + apart, jolt("plain", apart, "paid", 0), apart / 2);
            Check.due("paid to paid", jolt("paid", apart, "paid", 0), apart / 2);
            Check.due("if a is paid all of it", jolt("paid", 0, "plain", apart), apart);
        }
    }

    static void p15TwentyAtMost() {
        AsleepPass x = Check.told("stretch 9 9;bearer plain 0 0;bearer plain 1 0;bearer plain 2 0;bearer plain 3 0;"
            + "bearer trembler 9 0;bearer trembler 0 0;");
        Check.due("18", x.harm(0, NONE, 0), 18);
        Check.due("19", x.harm(0, 1, 0), 19);
        Check.due("20", x.harm(0, 2, 0), 20);
        Check.due("21", x.harm(0, 3, 0), 20);
        Check.due("18 and 9", x.harm(0, 4, 0), 20);
        Check.due("19 of a trembler", x.harm(0, NONE, 4), 19);
        Check.due("19 and 9, the most there is", x.harm(0, 0, 4), 20);
    }

    static void p15BadStretch() {
        AsleepPass x = Check.told("stretch 0 0;stretch 0 0;bearer plain 2 0;bearer plain 2 0;");
        for (int i : NOT_THERE) {
            Check.due("harm(" + i + ", 0, 1)", x.harm(i, 0, 1), BAD);
            Check.due("harm(" + i + ", NONE, 1)", x.harm(i, NONE, 1), BAD);
        }
        Check.due("harm(NONE, 0, 1)", x.harm(NONE, 0, 1), BAD);
        Check.due("no STRETCHES", Check.told("bearer plain 0 0;").harm(0, NONE, 0), BAD);
    }

    static void p15BadGiver() {
        AsleepPass x = Check.told("stretch 0 0;stretch 0 0;bearer plain 2 0;bearer plain 2 0;");
        for (int a : NOT_THERE) {
            Check.due("harm(0, " + a + ", 1)", x.harm(0, a, 1), BAD);
        }
    }

    static void p15BadTaker() {
        AsleepPass x = Check.told("stretch 0 0;stretch 0 0;bearer plain 2 0;bearer plain 2 0;");
        for (int b : NOT_THERE) {
            Check.due("harm(0, 0, " + b + ")", x.harm(0, 0, b), BAD);
            Check.due("harm(0, NONE, " + b + ")", x.harm(0, NONE, b), BAD);
        }
        Check.due("harm(0, 0, NONE)", x.harm(0, 0, NONE), BAD);
        Check.due("harm(0, NONE, NONE)", x.harm(0, NONE, NONE), BAD);
    }

    // ---- 16: wakes

    static void p16OnNoWay() {
        wakes(new AsleepPass(), 0, 1);
        wakes(Check.told("start 1;bearer plain 0 0;"), 0, 1);
    }

    static void p16HarmZero() {
        wakes(Check.told("start 1;stretch 0 0;bearer plain 0 0;"), 0, 1);
    }

    static void p16HarmTwenty() {
        // HARM 0, then 20 twice by hand overs: 2, 1, awake, surely.
        wakes(Check.told("start 1;stretch 0 0;stretch 9 9;stretch 9 9;bearer plain 9 0;bearer plain 0 0;carry 1 1;"), 1, 1);
    }

    static void p16TooDeepToWake() {
        AsleepPass x = Check.told("start 3;stretch 9 9;stretch 9 9;bearer plain 0 0;");
        wakes(x, 0, 1);
        x.start(2);
        wakes(x, 81, 100);
    }

    static void p16Bad() {
        AsleepPass x = Check.told("stretch 1 0;bearer plain 0 0;");
        for (int what : NO_PART) {
            Check.due("wakes(" + what + ")", x.wakes(what), BAD);
            Check.due("wakes(" + what + ") on no way", new AsleepPass().wakes(what), BAD);
        }
    }

    static void termsLowestTerms() {
        AsleepPass x = Check.told("start 1;stretch 0 0;bearer plain 0 0;");
        int[][] want = {{0, 1}, {1, 20}, {1, 10}, {3, 20}, {1, 5}, {1, 4}, {3, 10}, {7, 20}, {2, 5}, {9, 20}};
        for (int noise = 0; noise < 10; noise++) {
            x.noise(0, noise);
            wakes(x, want[noise][0], want[noise][1]);
        }
    }

    static void termsLowestTermsOfTheLargest() {
        // From DEPTH 9 nine falls, or one that stays and nine falls, and so on: over ten STRETCHES of HARM 19.
        AsleepPass x = Check.told("start 9;" + "stretch9 9;".repeat(10) + "bearer trembler0 0;");
        long nine = 322687697779L;
        long all = 512000000000L;
        awake(x, 8, nine, all);
        // Ten: nine at once, or one rise (at 9 it stays) ahead of the nine; a later rise leaves it at 1.
        wakes(x, nine * 21, all * 20);
    }

    static void termsZeroIsZeroByOne() {
        AsleepPass x = Check.told("start 9;stretch 5 0;stretch 5 0;bearer plain 0 0;");
        awake(x, 0, 0, 1);
        awake(x, 1, 0, 1);
        depth(x, 1, 3, 0, 1);
        Check.fraction("best", x.best(0), x.best(1), 0, 1);
        Check.fraction("quiet", x.quiet(1, 0), x.quiet(1, 1), 0, 1);
        Check.fraction("drop", x.drop(0), x.drop(1), 0, 1);
    }

    // ---- 17: awake

    static void p17TheLastIsAsWakes() {
        AsleepPass x = Check.told("start 2;stretch 4 4;stretch 5 5;stretch 6 6;bearer plain 0 1;");
        Check.due("above", x.awake(2, 0), x.wakes(0));
        Check.due("below", x.awake(2, 1), x.wakes(1));
    }

    static void p17ItStaysAwake() {
        AsleepPass x = Check.told("start 1;stretch 9 1;stretch 0 0;stretch 0 0;bearer plain 0 0;");
        for (int i = 0; i < 3; i++) {
            awake(x, i, 1, 2);
        }
    }

    static void p17BadStretch() {
        AsleepPass x = Check.told("start 1;stretch 9 1;stretch 0 0;bearer plain 0 0;");
        for (int i : NOT_THERE) {
            Check.due("awake(" + i + ", 0)", x.awake(i, 0), BAD);
            Check.due("awake(" + i + ", 1)", x.awake(i, 1), BAD);
        }
        Check.due("awake(NONE, 0)", x.awake(NONE, 0), BAD);
        Check.due("awake(0, 1) on no way", new AsleepPass().awake(0, 1), BAD);
    }

    static void p17BadWhat() {
        AsleepPass x = Check.told("start 1;stretch 9 1;bearer plain 0 0;");
        for (int what : NO_PART) {
            Check.due("awake(0, " + what + ")", x.awake(0, what), BAD);
        }
    }

    // ---- 18: depth

    static void p18AtNineItStays() {
        AsleepPass x = Check.told("start 9;stretch 4 0;stretch 0 0;stretch 0 0;bearer plain 0 0;");
        depth(x, 0, 9, 4, 5);
        depth(x, 0, 8, 1, 5);
        depth(x, 1, 9, 1, 1);
        depth(x, 2, 9, 1, 1);
        depth(x, 2, 8, 0, 1);
    }

    static void p18FromEightToNine() {
        AsleepPass x = Check.told("start 8;stretch 4 0;bearer plain 0 0;");
        depth(x, 0, 9, 4, 5);
        depth(x, 0, 8, 0, 1);
        depth(x, 0, 7, 1, 5);
    }

    static void p18FromOneToZero() {
        AsleepPass x = Check.told("start 1;stretch 4 0;stretch 9 9;bearer plain 0 0;");
        depth(x, 0, 0, 1, 5);
        depth(x, 0, 2, 4, 5);
        // Whoever is awake does not fall, nor rise.
        depth(x, 1, 0, 1, 5);
        depth(x, 1, 1, 18, 25);
        depth(x, 1, 3, 2, 25);
    }

    static void p18OfHarmZeroAndTwenty() {
        AsleepPass x = Check.told("start 4;stretch 0 0;stretch 9 9;bearer plain 9 0;bearer plain 0 0;carry 1 1;");
        depth(x, 0, 5, 1, 1);
        depth(x, 0, 3, 0, 1);
        depth(x, 1, 4, 1, 1);
        depth(x, 1, 6, 0, 1);
    }

    static void p18AllDepthsAreOne() {
        AsleepPass x = Check.told("start 3;stretch 3 1;stretch 4 4;stretch 5 8;stretch 0 7;bearer plain 0 1;bearer tall 5 5;carry 2 1;");
        for (int i = 0; i < 4; i++) {
            long sum = 0;
            for (int d = 0; d < 10; d++) {
                sum += x.depth(i, d, 0) * (160000 / x.depth(i, d, 1));
            }
            Check.due("all DEPTHS behind " + i, sum, 160000);
        }
    }

    static void p18BadStretch() {
        AsleepPass x = Check.told("start 1;stretch 9 1;stretch 0 0;bearer plain 0 0;");
        for (int i : NOT_THERE) {
            Check.due("depth(" + i + ", 5, 0)", x.depth(i, 5, 0), BAD);
        }
        Check.due("depth(NONE, 5, 0)", x.depth(NONE, 5, 0), BAD);
        Check.due("depth(0, 5, 0) on no way", new AsleepPass().depth(0, 5, 0), BAD);
    }

    static void p18BadDepth() {
        AsleepPass x = Check.told("start 1;stretch 9 1;stretch 0 0;bearer plain 0 0;");
        for (int d : new int[] {-1, 10, 11, NONE, Integer.MAX_VALUE, Integer.MIN_VALUE}) {
            Check.due("depth(0, " + d + ", 0)", x.depth(0, d, 0), BAD);
            Check.due("depth(0, " + d + ", 1)", x.depth(0, d, 1), BAD);
        }
        Check.due("depth(0, 0, 1)", x.depth(0, 0, 1), 2);
        Check.due("depth(0, 9, 1)", x.depth(0, 9, 1), 1);
    }

    static void p18BadWhat() {
        AsleepPass x = Check.told("start 1;stretch 9 1;bearer plain 0 0;");
        for (int what : NO_PART) {
            Check.due("depth(0, 0, " + what + ")", x.depth(0, 0, what), BAD);
        }
    }
}
