/** Edges of promises 29 to 33: mark, wipe, paths, eye, sure; of a PATH. */
final class MarkedEdges {
    private static final int BAD = AsleepPass.BAD;
    private static final int NONE = AsleepPass.NONE;
    private static final int FULL = AsleepPass.FULL;
    private static final int[] NOT_THERE = {-1, 2, 6, 10, NONE, Integer.MAX_VALUE, Integer.MIN_VALUE};
    private static final int[] NO_DEPTH = {-1, 10, 11, NONE, Integer.MAX_VALUE, Integer.MIN_VALUE};

    private MarkedEdges() {
    }

    private static AsleepPass two(int start) {
        return Check.told("start " + start + ";stretch 1 0;stretch 1 0;bearer plain 0 0;");
    }

    private static AsleepPass full() {
        AsleepPass x = two(5);
        for (int n = 0; n < 6; n++) {
            x.mark(1, 5);
        }
        return x;
    }

    private static void paths(AsleepPass x, int many, int falls, int rises) {
        Check.due("paths()", x.paths(), many);
        Check.due("sure(0)", x.sure(0), falls);
        Check.due("sure(1)", x.sure(1), rises);
    }

    private static void noPaths(AsleepPass x) {
        paths(x, 0, NONE, NONE);
        for (int d = 0; d < 10; d++) {
            Check.due("eye(" + d + ")", x.eye(d), 0);
        }
    }

    // ---- 29: mark

    static void p29HowManyAre() {
        AsleepPass x = two(5);
        for (int n = 1; n <= 6; n++) {
            Check.due("mark", x.mark(n % 2, n), n);
            Check.due("count(1)", x.count(1), n);
        }
    }

    static void p29TheSameAgainCounts() {
        AsleepPass x = two(5);
        Check.due("mark(0, 4)", x.mark(0, 4), 1);
        Check.due("mark(0, 4)", x.mark(0, 4), 2);
        paths(x, 2, 1, 0);
    }

    static void p29FullBehindSix() {
        AsleepPass x = full();
        Check.due("the seventh", x.mark(1, 5), FULL);
        Check.due("count(1)", x.count(1), 6);
    }

    static void p29FullChangesNothing() {
        AsleepPass x = full();
        x.mark(0, 4);
        paths(x, 2, 0, 0);
    }

    static void p29FullNoMoreBehindWipe() {
        AsleepPass x = full();
        x.wipe(5);
        Check.due("mark(0, 4)", x.mark(0, 4), 6);
        paths(x, 1, 1, 2);
        Check.due("mark(0, 4)", x.mark(0, 4), FULL);
    }

    static void p29DepthZeroAndNine() {
        AsleepPass x = two(5);
        Check.due("mark(0, 0)", x.mark(0, 0), 1);
        Check.due("mark(1, 9)", x.mark(1, 9), 2);
        noPaths(x);
    }

    static void p29BadDepth() {
        AsleepPass x = two(5);
        for (int d : NO_DEPTH) {
            Check.due("mark(0, " + d + ")", x.mark(0, d), BAD);
        }
        Check.due("count(1)", x.count(1), 0);
    }

    static void p29BadStretch() {
        AsleepPass x = two(5);
        for (int i : NOT_THERE) {
            Check.due("mark(" + i + ", 5)", x.mark(i, 5), BAD);
        }
        Check.due("count(1)", x.count(1), 0);
        Check.due("where there is none", new AsleepPass().mark(0, 5), BAD);
    }

    static void p29BadAheadOfFull() {
        AsleepPass x = full();
        Check.due("no such DEPTH", x.mark(0, 10), BAD);
        Check.due("no such STRETCH", x.mark(2, 5), BAD);
    }

    // ---- 30: wipe

    static void p30TheFirstAlone() {
        AsleepPass x = two(5);
        x.mark(0, 6);
        x.mark(0, 4);
        noPaths(x);
        Check.due("wipe(1)", x.wipe(1), 2);
        paths(x, 2, 0, 1);
    }

    static void p30None() {
        AsleepPass x = full();
        Check.due("wipe(0)", x.wipe(0), 6);
        Check.due("count(1)", x.count(1), 0);
        Check.due("wipe(0) of none", x.wipe(0), 0);
        paths(x, 4, 0, 0);
    }

    static void p30All() {
        AsleepPass x = full();
        Check.due("wipe(6)", x.wipe(6), 6);
        x.wipe(2);
        Check.due("wipe(2)", x.wipe(2), 2);
    }

    static void p30BadBelowZero() {
        AsleepPass x = full();
        for (int n : new int[] {-1, NONE, Integer.MIN_VALUE}) {
            Check.due("wipe(" + n + ")", x.wipe(n), BAD);
        }
        Check.due("count(1)", x.count(1), 6);
        Check.due("wipe(-1) of none", new AsleepPass().wipe(-1), BAD);
    }

    static void p30BadAboveWhatThereAre() {
        AsleepPass x = full();
        for (int n : new int[] {7, 8, Integer.MAX_VALUE}) {
            Check.due("wipe(" + n + ")", x.wipe(n), BAD);
        }
        x.wipe(2);
        Check.due("wipe(3) of 2", x.wipe(3), BAD);
        Check.due("count(1)", x.count(1), 2);
        Check.due("wipe(1) of none", new AsleepPass().wipe(1), BAD);
    }

    // ---- 31: paths

    static void p31OnNoWay() {
        paths(new AsleepPass(), 1, 0, 0);
    }

    static void p31HarmZeroNeverFalls() {
        AsleepPass x = Check.told("start 5;stretch 0 0;stretch 1 0;bearer plain 0 0;");
        paths(x, 2, 0, 1);
        x.mark(0, 4);
        noPaths(x);
    }

    static void p31HarmTwentyNeverRises() {
        AsleepPass x = Check.told("start 5;stretch 1 0;stretch 9 9;bearer plain 9 0;bearer plain 0 0;carry 1 1;");
        paths(x, 2, 2, 0);
        x.mark(1, 7);
        noPaths(x);
    }

    static void p31HarmOneAndNineteenDoBoth() {
        AsleepPass x = Check.told("start 5;stretch 1 0;stretch 9 9;bearer trembler 0 0;");
        Check.due("harm", x.harm(1, 0, 0), 19);
        paths(x, 4, 0, 0);
    }

    static void p31ItEndsWhereItWakes() {
        AsleepPass x = two(1);
        // Awake at once; or 2, then 1 or 3.
        paths(x, 3, 0, 0);
        Check.due("DEPTH is 0 from there on", x.eye(0), 3);
    }

    static void p31MarkedAwake() {
        AsleepPass x = two(1);
        x.mark(1, 0);
        paths(x, 1, 1, 0);
        x.wipe(0);
        x.mark(0, 0);
        paths(x, 1, 1, 0);
        x.mark(1, 1);
        noPaths(x);
    }

    static void p31MarkedAsleepAgain() {
        AsleepPass x = two(1);
        x.mark(0, 0);
        x.mark(1, 0);
        paths(x, 1, 1, 0);
        x.wipe(1);
        x.mark(1, 2);
        noPaths(x);
    }

    static void p31TwoDepthsBehindOneStretch() {
        AsleepPass x = two(5);
        x.mark(1, 5);
        x.mark(1, 7);
        noPaths(x);
    }

    static void p31AllOfTen() {
        AsleepPass x = Check.told("start 9;" + "stretch1 0;".repeat(10) + "bearer plain0 0;");
        // 1024, but that which wakes behind the ninth STRETCH has no tenth.
        Check.due("paths()", x.paths(), 1023);
        x.start(5);
        for (int n = 0; n < 6; n++) {
            x.mark(9, 5);
        }
        Check.due("paths() back to 5", x.paths(), countBack(5, 10, 5));
    }

    /** PATHS of falls and rises that end at a DEPTH, listed one by one. */
    private static int countBack(int start, int many, int goal) {
        int count = 0;
        for (int set = 0; set < 1 << many; set++) {
            int depth = start;
            boolean slept = true;
            for (int i = 0; i < many; i++) {
                depth = (set >> i & 1) == 1 ? depth - 1 : Math.min(9, depth + 1);
                slept &= depth > 0;
            }
            count += slept && depth == goal ? 1 : 0;
        }
        return count;
    }

    static void p31StartIsNotMarked() {
        // What is MARKED is behind a STRETCH; ahead of the first it is START.
        AsleepPass x = two(5);
        x.mark(0, 5);
        noPaths(x);
    }

    static void p31AsItIsNow() {
        AsleepPass x = two(5);
        x.mark(1, 6);
        noPaths(x);
        x.start(4);
        paths(x, 1, 0, 3);
        x.noise(0, 0);
        paths(x, 1, 0, 3);
        x.start(8);
        noPaths(x);
    }

    // ---- 32: eye

    static void p32EyeOfOne() {
        AsleepPass x = two(2);
        Check.due("eye(1)", x.eye(1), 1);
        Check.due("eye(0)", x.eye(0), 2);
        Check.due("eye(2)", x.eye(2), 2);
        Check.due("eye(3)", x.eye(3), 1);
        Check.due("eye(4)", x.eye(4), 2);
    }

    static void p32ZeroFromThereOn() {
        AsleepPass x = Check.told("start 1;stretch 1 0;stretch 0 0;stretch 0 0;bearer plain 0 0;");
        Check.due("eye(0)", x.eye(0), 7);
    }

    static void p32Nine() {
        AsleepPass x = two(9);
        Check.due("eye(9)", x.eye(9), 3);
        Check.due("eye(8)", x.eye(8), 3);
        Check.due("eye(7)", x.eye(7), 2);
    }

    static void p32TheTenthStretch() {
        AsleepPass x = Check.told("start 9;" + "stretch1 0;".repeat(10) + "bearer plain0 0;");
        Check.due("eye(0)", x.eye(0), 768);
        // DEPTH 1 behind eight falls, or nine with one rise at 9, or ten STRETCHES with a rise more.
        Check.due("eye(1)", x.eye(1), 896);
    }

    static void p32BySomePathAlone() {
        AsleepPass x = two(5);
        x.mark(1, 7);
        Check.due("eye(4)", x.eye(4), 0);
        Check.due("eye(6)", x.eye(6), 1);
        Check.due("eye(5)", x.eye(5), 0);
        Check.due("eye(7)", x.eye(7), 2);
    }

    static void p32OnNoWay() {
        for (int d = 0; d < 10; d++) {
            Check.due("eye(" + d + ")", new AsleepPass().eye(d), 0);
        }
    }

    static void p32Bad() {
        AsleepPass x = two(5);
        for (int d : NO_DEPTH) {
            Check.due("eye(" + d + ")", x.eye(d), BAD);
            Check.due("eye(" + d + ") on no way", new AsleepPass().eye(d), BAD);
        }
    }

    // ---- 33: sure

    static void p33AtNineItStays() {
        AsleepPass x = two(9);
        x.mark(0, 9);
        x.mark(1, 9);
        paths(x, 1, 0, 3);
    }

    static void p33FromDepthOne() {
        AsleepPass x = two(1);
        x.mark(0, 2);
        paths(x, 2, 0, 1);
        x.mark(1, 1);
        paths(x, 1, 2, 1);
    }

    static void p33OfHarmZeroAndTwentyByOnePath() {
        AsleepPass x = Check.told("start 5;stretch 0 0;stretch 9 9;bearer plain 9 0;bearer plain 0 0;carry 1 1;");
        paths(x, 1, 2, 1);
    }

    static void p33BehindWakingItDoesNeither() {
        AsleepPass x = Check.told("start 1;stretch 1 0;stretch 0 0;stretch 1 0;bearer plain 0 0;");
        x.mark(0, 0);
        paths(x, 1, 1, 0);
        x.wipe(0);
        // One PATH wakes at once: on the others it rises, but not on that.
        paths(x, 3, 0, 0);
    }

    static void p33TheTenthStretch() {
        AsleepPass x = Check.told("start 9;" + "stretch1 0;".repeat(10) + "bearer plain0 0;");
        x.mark(8, 1);
        x.mark(9, 0);
        paths(x, 1, 1022, 1);
    }

    static void p33NoneThereAreNoPaths() {
        AsleepPass x = two(5);
        x.mark(0, 9);
        Check.due("sure(0)", x.sure(0), NONE);
        Check.due("sure(1)", x.sure(1), NONE);
    }

    static void p33Bad() {
        AsleepPass x = two(5);
        for (int what : new int[] {-1, 2, 3, NONE, Integer.MAX_VALUE, Integer.MIN_VALUE}) {
            Check.due("sure(" + what + ")", x.sure(what), BAD);
            Check.due("sure(" + what + ") on no way", new AsleepPass().sure(what), BAD);
        }
        x.mark(0, 9);
        Check.due("BAD ahead of NONE", x.sure(2), BAD);
        Check.due("BAD ahead of NONE", x.sure(-1), BAD);
    }
}
