/** Edges of promises 22 to 25: quiet, drop, swap, carry; of a DROP and of a CROSSING. */
final class AdviceEdges {
    private static final int BAD = AsleepPass.BAD;
    private static final int NONE = AsleepPass.NONE;
    private static final int STATE = AsleepPass.STATE;
    private static final int[] NO_PART = {-1, 3, 4, NONE, Integer.MAX_VALUE, Integer.MIN_VALUE};
    private static final int[] SEEDS = {0, 1, -1, 2, 4711, -4711, 65535, 65536, Integer.MAX_VALUE, Integer.MIN_VALUE};

    private AdviceEdges() {
    }

    private static void quiet(AsleepPass x, int m, long above, long below, int set) {
        Check.fraction("quiet(" + m + ")", x.quiet(m, 0), x.quiet(m, 1), above, below);
        Check.due("quiet(" + m + ", 2)", x.quiet(m, 2), set);
    }

    private static void drop(AsleepPass x, long above, long below, int at) {
        Check.fraction("drop", x.drop(0), x.drop(1), above, below);
        Check.due("drop(2)", x.drop(2), at);
    }

    private static void swap(AsleepPass x, long above, long below, int both) {
        Check.fraction("swap", x.swap(0), x.swap(1), above, below);
        Check.due("swap(2)", x.swap(2), both);
    }

    private static void noSwap(AsleepPass x) {
        for (int what = 0; what < 3; what++) {
            Check.due("swap(" + what + ")", x.swap(what), NONE);
        }
    }

    // ---- 22: quiet

    static void p22OnNone() {
        AsleepPass x = Check.told("start 1;stretch 5 0;stretch 5 0;bearer plain 0 0;");
        quiet(x, 0, 1, 4, 0);
    }

    static void p22OnFour() {
        AsleepPass x = Check.told("start 1;" + "stretch4 0;".repeat(5) + "bearer plain0 0;");
        // The first two stopped: DEPTH 3, then three falls by 1 of 5 each (bits 5 are as good).
        quiet(x, 2, 1, 125, 3);
        quiet(x, 3, 0, 1, 7);
        quiet(x, 4, 0, 1, 7);
    }

    static void p22FourOfTen() {
        AsleepPass x = Check.told("start 1;" + "stretch9 9;".repeat(10) + "bearer plain0 0;");
        Check.due("quiet(4, 2)", x.quiet(4, 2), 15);
        Check.due("quiet(1, 2)", x.quiet(1, 2), 1);
    }

    static void p22MoreThanThereAre() {
        AsleepPass x = Check.told("start 1;stretch 5 1;bearer plain 0 0;");
        quiet(x, 1, 1, 20, 1);
        quiet(x, 4, 1, 20, 1);
    }

    static void p22AllNoise() {
        AsleepPass x = Check.told("start 1;stretch 9 0;bearer plain 0 0;");
        quiet(x, 1, 0, 1, 1);
    }

    static void p22OfSeveralTheFewest() {
        AsleepPass x = Check.told("start 9;stretch 9 9;stretch 9 9;bearer plain 0 0;");
        quiet(x, 4, 0, 1, 0);
        // NOISE 2 is none by a hummer: to stop it helps no more.
        AsleepPass y = Check.told("start 1;stretch 2 3;stretch 2 3;bearer hummer 0 0;");
        quiet(y, 4, 3, 20, 0);
    }

    static void p22TheFewestAheadOfTheLeast() {
        // From DEPTH 2 both must fall: STRETCH 1 alone, stopped, or STRETCH 0 alone; then never {0, 1}.
        AsleepPass x = Check.told("start 2;stretch 5 0;stretch 6 0;bearer plain 0 0;");
        quiet(x, 2, 0, 1, 1);
        // COLD is left on STRETCH 0: STRETCH 1 (bits 2) alone is fewer than both, 0 alone is worse.
        AsleepPass y = Check.told("start 2;stretch 5 5;stretch 6 0;bearer plain 0 0;");
        quiet(y, 2, 0, 1, 2);
        // COLD is left on STRETCHES 0 and 1 (bits 3): STRETCH 2 alone is better.
        AsleepPass z = Check.told("start 3;stretch 5 1;stretch 5 1;stretch 5 0;bearer plain 0 0;");
        quiet(z, 2, 0, 1, 4);
    }

    static void p22ThenTheLeast() {
        AsleepPass x = Check.told("start 3;stretch 5 0;stretch 5 0;stretch 5 0;bearer plain 0 0;");
        quiet(x, 1, 0, 1, 1);
        AsleepPass y = Check.told("start 3;stretch 5 1;stretch 5 0;stretch 5 0;bearer plain 0 0;");
        quiet(y, 1, 0, 1, 2);
    }

    static void p22TheLastStretch() {
        // There is NOISE on the tenth alone.
        AsleepPass x = Check.told("start 9;" + "stretch0 9;".repeat(9) + "stretch 9 0;bearer trembler0 0;");
        Check.due("quiet(1, 2)", x.quiet(1, 2), 512);
        Check.due("NOISE stays", x.stretch(9, 0), 9);
    }

    static void p22OnNoWay() {
        quiet(new AsleepPass(), 0, 0, 1, 0);
        quiet(new AsleepPass(), 4, 0, 1, 0);
    }

    static void p22BadM() {
        AsleepPass x = Check.told("start 1;stretch 5 0;bearer plain 0 0;");
        for (int m : new int[] {-1, 5, 6, 10, NONE, Integer.MAX_VALUE, Integer.MIN_VALUE}) {
            for (int what = 0; what < 3; what++) {
                Check.due("quiet(" + m + ", " + what + ")", x.quiet(m, what), BAD);
            }
        }
        Check.due("quiet(5, 0) on no way", new AsleepPass().quiet(5, 0), BAD);
    }

    static void p22BadWhat() {
        AsleepPass x = Check.told("start 1;stretch 5 0;bearer plain 0 0;");
        for (int what : NO_PART) {
            Check.due("quiet(1, " + what + ")", x.quiet(1, what), BAD);
        }
    }

    // ---- 23: drop

    static void p23StateThereAreNone() {
        for (int what = 0; what < 3; what++) {
            Check.due("drop(" + what + ")", new AsleepPass().drop(what), STATE);
            Check.due("drop(" + what + ")", Check.told("bearer plain 0 0;").drop(what), STATE);
        }
    }

    static void p23BadAheadOfState() {
        for (int what : NO_PART) {
            Check.due("drop(" + what + ")", new AsleepPass().drop(what), BAD);
            Check.due("drop(" + what + ")", Check.told("stretch 1 1;bearer plain 0 0;").drop(what), BAD);
        }
    }

    static void p23OnOneStretch() {
        drop(Check.told("start 1;stretch 9 9;bearer plain 0 0;"), 0, 1, 0);
    }

    static void p23TwoMore() {
        // From 1 to 3: three falls of HARM 10 each.
        AsleepPass x = Check.told("start 1;stretch 9 1;stretch 9 1;stretch 9 1;bearer plain 0 0;");
        drop(x, 1, 8, 0);
        AsleepPass y = Check.told("start 1;stretch 9 1;stretch 9 1;bearer plain 0 0;");
        drop(y, 0, 1, 0);
    }

    static void p23OfSeveralTheFirst() {
        // It never wakes, with a DROP or without.
        drop(Check.told("start 5;stretch 9 9;stretch 9 9;bearer plain 0 0;"), 0, 1, 0);
        // Ahead of 0 or of 1, both surely asleep: DEPTH 4 ahead of three falls of HARM 10, never awake.
        drop(Check.told("start 1;stretch 0 0;stretch 9 1;stretch 9 1;stretch 9 1;bearer plain 0 0;"), 0, 1, 0);
    }

    static void p23NineAtMost() {
        // At 9 it does nothing; ahead of STRETCH 1 it brings one who fell once back to 9.
        AsleepPass x = Check.told("start 9;" + "stretch9 9;".repeat(9) + "bearer plain0 0;");
        drop(x, 0, 1, 1);
        // From 8 it is but 1 more: nine falls (of ten) are left.
        AsleepPass y = Check.told("start 8;" + "stretch9 9;".repeat(8) + "bearer plain0 0;");
        drop(y, 0, 1, 0);
    }

    static void p23IfItSleeps() {
        // Ahead of the last STRETCH, which has no HARM, a DROP would save all, if it helped one who is awake.
        AsleepPass x = Check.told("start 1;stretch 9 9;stretch 9 9;stretch 9 9;stretch 0 0;bearer plain 0 0;");
        drop(x, 729, 1000, 0);
    }

    static void p23NothingIsGiven() {
        AsleepPass x = Check.told("start 1;stretch 9 9;bearer plain 0 0;");
        x.drop(0);
        Check.due("START stays", x.rule(2), 1);
        Check.fraction("wakes", x.wakes(0), x.wakes(1), 9, 10);
    }

    // ---- 24: swap

    static void p24NoneOnNoWayOrOneStretch() {
        noSwap(new AsleepPass());
        noSwap(Check.told("start 1;stretch 9 9;bearer plain 0 0;bearer plain 0 9;"));
    }

    static void p24NoneByTheSameBearer() {
        noSwap(Check.told("start 1;stretch 9 9;stretch 0 0;bearer plain 0 0;bearer plain 0 9;"));
    }

    static void p24NoneAsGoodIsNotLess() {
        // Both are alike: to change them is as good as now.
        noSwap(Check.told("start 1;stretch 5 5;stretch 5 5;bearer plain 3 3;bearer plain 3 3;carry 1 1;"));
        // It never wakes: nothing is less.
        noSwap(Check.told("start 9;stretch 0 9;stretch 0 0;bearer plain 0 0;bearer plain 0 9;carry 1 1;"));
    }

    static void p24NoneIfItIsWorse() {
        noSwap(Check.told("start 1;stretch 0 9;stretch 0 0;bearer plain 0 9;bearer plain 0 0;carry 1 1;"));
    }

    static void p24TheFirstTwo() {
        AsleepPass x = Check.told("start 1;stretch 0 9;stretch 0 0;bearer plain 0 0;bearer plain 0 9;carry 1 1;");
        swap(x, 0, 1, 1);
        Check.due("THE ORDER stays", x.stretch(0, 2), 0);
        Check.due("THE ORDER stays", x.stretch(1, 2), 1);
    }

    static void p24TheLastTwo() {
        // WARMTH counts on STRETCH 8 alone, and only STRETCH 9 has it.
        AsleepPass x = Check.told("start 1;" + "stretch9 0;".repeat(8) + "stretch 9 9;stretch 9 0;"
            + "bearer plain 0 0;bearer plain 0 9;carry 9 1;");
        Check.due("swap(2)", x.swap(2), 89);
    }

    static void p24OfSeveralTheFirst() {
        // STRETCH 0 is cold; the warm one stands at 1, 2 and 3: any of them.
        AsleepPass x = Check.told("start 1;stretch 0 9;stretch 0 0;stretch 0 0;stretch 0 0;bearer plain 0 0;bearer plain 0 9;"
            + "carry 1 1;carry 2 1;carry 3 1;");
        swap(x, 0, 1, 1);
        x.put(1, 0);
        swap(x, 0, 1, 2);
        x.put(2, 0);
        swap(x, 0, 1, 3);
    }

    static void p24NotTheFirstButTheBest() {
        // COLD 9: WARMTH 1 at STRETCH 1, WARMTH 5 at STRETCH 2.
        AsleepPass x = Check.told("start 1;stretch 0 9;stretch 0 0;stretch 0 0;bearer plain 0 0;bearer plain 0 1;"
            + "bearer plain 0 5;carry 1 1;carry 2 2;");
        swap(x, 1, 5, 2);
    }

    static void p24Bad() {
        AsleepPass x = Check.told("start 1;stretch 0 9;stretch 0 0;bearer plain 0 0;bearer plain 0 9;carry 1 1;");
        for (int what : NO_PART) {
            Check.due("swap(" + what + ")", x.swap(what), BAD);
            Check.due("BAD ahead of NONE: swap(" + what + ")", new AsleepPass().swap(what), BAD);
        }
    }

    // ---- 25: carry

    static void p25OnNoWay() {
        for (int seed : SEEDS) {
            AsleepPass x = new AsleepPass();
            Check.due("carry(" + seed + ", 0)", x.carry(seed, 0), 5);
            Check.due("carry(" + seed + ", 1)", x.carry(seed, 1), 0);
            Check.due("carry(" + seed + ", 2)", x.carry(seed, 2), NONE);
        }
    }

    static void p25HarmZeroNeverFalls() {
        AsleepPass x = Check.told("start 7;stretch 0 0;bearer plain 0 0;");
        for (int seed = -300; seed < 300; seed++) {
            Check.due("carry(" + seed + ", 0)", x.carry(seed, 0), 8);
        }
        Check.due("carry(0, 1)", x.carry(0, 1), 0);
        Check.due("carry(0, 2)", x.carry(0, 2), NONE);
    }

    static void p25HarmTwentyAlwaysFalls() {
        AsleepPass x = Check.told("start 1;stretch 0 0;stretch 9 9;bearer plain 9 0;bearer plain 0 0;carry 1 1;");
        for (int seed = -300; seed < 300; seed++) {
            Check.due("carry(" + seed + ", 0)", x.carry(seed, 0), 1);
        }
        Check.due("carry(0, 1)", x.carry(0, 1), 1);
    }

    /** What is drawn first by a seed, out of 20, by numbers without bounds. */
    private static int drawn(int seed) {
        long full = seed * 1103515245L + 12345L;
        return (int) ((full >> 16 & 32767) % 20);
    }

    static void p25LessThanHarm() {
        // HARM h falls by h of 20 numbers: by h - 1 it does, by h itself it does not.
        for (int h = 0; h <= 18; h++) {
            AsleepPass x = Check.told("start 5;stretch " + Math.min(9, h) + " " + Math.max(0, h - 9) + ";bearer plain 0 0;");
            Check.due("harm", x.harm(0, NONE, 0), h);
            for (int seed = 0; seed < 60; seed++) {
                Check.due("carry(" + seed + ", 0) by " + h, x.carry(seed, 0), drawn(seed) < h ? 4 : 6);
            }
            for (int seed : SEEDS) {
                Check.due("carry(" + seed + ", 1) by " + h, x.carry(seed, 1), drawn(seed) < h ? 1 : 0);
            }
        }
    }

    static void p25TheSeedWrapsAround() {
        AsleepPass x = Check.told("start 9;" + "stretch9 1;".repeat(10) + "bearer plain0 0;");
        for (int seed : SEEDS) {
            int depth = 9;
            int falls = 0;
            long now = seed;
            for (int i = 0; i < 10 && depth > 0; i++) {
                now = (int) (now * 1103515245L + 12345L);
                boolean fell = (now >> 16 & 32767) % 20 < 10;
                falls += fell ? 1 : 0;
                depth = fell ? depth - 1 : Math.min(9, depth + 1);
            }
            Check.due("carry(" + seed + ", 0)", x.carry(seed, 0), depth);
            Check.due("carry(" + seed + ", 1)", x.carry(seed, 1), falls);
        }
    }

    static void p25AtNineItStays() {
        AsleepPass x = Check.told("start 9;stretch 0 0;stretch 0 0;bearer plain 0 0;");
        Check.due("carry(3, 0)", x.carry(3, 0), 9);
    }

    static void p25AsLongAsItSleeps() {
        // DEPTH 2, 1, 0 surely; the STRETCHES behind would let it fall again, or rise.
        AsleepPass x = Check.told("start 1;stretch 0 0;stretch 9 9;stretch 9 9;stretch 9 9;stretch 0 0;"
            + "bearer plain 9 0;bearer plain 0 0;carry 1 1;carry 3 1;carry 4 1;");
        for (int seed : SEEDS) {
            Check.due("carry(" + seed + ", 0)", x.carry(seed, 0), 0);
            Check.due("carry(" + seed + ", 1)", x.carry(seed, 1), 2);
            Check.due("carry(" + seed + ", 2)", x.carry(seed, 2), 2);
        }
    }

    static void p25ItWakesOnTheFirst() {
        AsleepPass x = Check.told("start 1;stretch 9 9;bearer trembler 0 0;");
        // 19 of 20: any seed that draws less than 19.
        for (int seed : SEEDS) {
            Check.due("carry(" + seed + ", 2)", x.carry(seed, 2), drawn(seed) < 19 ? 0 : NONE);
        }
    }

    static void p25NothingIsKeptOfASeed() {
        AsleepPass x = Check.told("start 5;stretch 9 1;stretch 9 1;stretch 9 1;bearer plain 0 0;");
        int first = x.carry(77, 0);
        x.carry(78, 0);
        Check.due("carry(77, 0) again", x.carry(77, 0), first);
        Check.due("START stays", x.rule(2), 5);
    }

    static void p25Bad() {
        AsleepPass x = Check.told("start 5;stretch 9 1;bearer plain 0 0;");
        for (int what : NO_PART) {
            for (int seed : SEEDS) {
                Check.due("carry(" + seed + ", " + what + ")", x.carry(seed, what), BAD);
            }
        }
    }
}
