/** Edges of promises 26 to 28: learn, forget, steps. */
final class LearntEdges {
    private static final int BAD = AsleepPass.BAD;
    private static final int NONE = AsleepPass.NONE;
    private static final int FULL = AsleepPass.FULL;
    private static final int[] NOT_THERE = {-1, -2, -3, -5, 2, 6, 10, Integer.MAX_VALUE, Integer.MIN_VALUE};
    private static final int[] NO_HARM = {-1, 21, 22, NONE, Integer.MAX_VALUE, Integer.MIN_VALUE};

    private LearntEdges() {
    }

    private static AsleepPass twoByTwo() {
        return Check.told("stretch 1 0;stretch 2 0;bearer plain 4 0;bearer plain 6 0;");
    }

    private static void steps(AsleepPass x, int b, int many, int least, int greatest) {
        Check.due("steps(" + b + ", 0)", x.steps(b, 0), many);
        Check.due("steps(" + b + ", 1)", x.steps(b, 1), least);
        Check.due("steps(" + b + ", 2)", x.steps(b, 2), greatest);
    }

    private static AsleepPass full() {
        AsleepPass x = twoByTwo();
        for (int n = 0; n < 8; n++) {
            x.learn(0, 0, 1, 3);
        }
        return x;
    }

    // ---- 26: learn

    static void p26HowManyAre() {
        AsleepPass x = twoByTwo();
        for (int n = 1; n <= 8; n++) {
            Check.due("learn", x.learn(n % 2, 0, 1, n), n);
            Check.due("count(0)", x.count(0), n);
        }
    }

    static void p26TheSameAgainCounts() {
        AsleepPass x = twoByTwo();
        Check.due("learn", x.learn(0, 0, 1, 3), 1);
        Check.due("learn", x.learn(0, 0, 1, 3), 2);
        steps(x, 0, 2, 4, 8);
    }

    static void p26FullBehindEight() {
        AsleepPass x = full();
        Check.due("the ninth", x.learn(0, 0, 1, 3), FULL);
        Check.due("count(0)", x.count(0), 8);
    }

    static void p26FullChangesNothing() {
        AsleepPass x = full();
        x.learn(0, NONE, 0, 20);
        steps(x, 0, 2, 4, 8);
    }

    static void p26FullNoMoreBehindForget() {
        AsleepPass x = full();
        x.forget(7);
        Check.due("learn", x.learn(0, 0, 1, 3), 8);
        Check.due("learn", x.learn(0, 0, 1, 3), FULL);
    }

    static void p26HarmZeroAndTwenty() {
        AsleepPass x = twoByTwo();
        Check.due("h 0", x.learn(0, 0, 1, 0), 1);
        Check.due("h 20", x.learn(0, 0, 1, 20), 2);
    }

    static void p26FromNobody() {
        AsleepPass x = twoByTwo();
        Check.due("on STRETCH 0", x.learn(0, NONE, 1, 1), 1);
        Check.due("on STRETCH 1", x.learn(1, NONE, 1, 2), 2);
        steps(x, 1, 10, 0, 9);
    }

    static void p26FromTheSame() {
        AsleepPass x = twoByTwo();
        Check.due("learn", x.learn(0, 1, 1, 1), 1);
        steps(x, 1, 10, 0, 9);
    }

    static void p26BadHarm() {
        AsleepPass x = twoByTwo();
        for (int h : NO_HARM) {
            Check.due("learn(0, 0, 1, " + h + ")", x.learn(0, 0, 1, h), BAD);
        }
        Check.due("count(0)", x.count(0), 0);
    }

    static void p26BadAsOfHarm() {
        AsleepPass x = twoByTwo();
        for (int out : NOT_THERE) {
            Check.due("learn(" + out + ", 0, 1, 3)", x.learn(out, 0, 1, 3), BAD);
            Check.due("learn(0, " + out + ", 1, 3)", x.learn(0, out, 1, 3), BAD);
            Check.due("learn(0, 0, " + out + ", 3)", x.learn(0, 0, out, 3), BAD);
            Check.due("learn(0, NONE, " + out + ", 3)", x.learn(0, NONE, out, 3), BAD);
        }
        Check.due("learn(NONE, 0, 1, 3)", x.learn(NONE, 0, 1, 3), BAD);
        Check.due("learn(0, 0, NONE, 3)", x.learn(0, 0, NONE, 3), BAD);
        Check.due("learn(0, NONE, NONE, 3)", x.learn(0, NONE, NONE, 3), BAD);
        Check.due("count(0)", x.count(0), 0);
        Check.due("where there is nothing", new AsleepPass().learn(0, NONE, 0, 3), BAD);
    }

    static void p26BadAheadOfFull() {
        AsleepPass x = full();
        Check.due("h 21", x.learn(0, 0, 1, 21), BAD);
        Check.due("h -1", x.learn(0, 0, 1, -1), BAD);
        Check.due("no such STRETCH", x.learn(2, 0, 1, 3), BAD);
        Check.due("no such BEARER", x.learn(0, 2, 1, 3), BAD);
        Check.due("no such BEARER", x.learn(0, 0, 2, 3), BAD);
    }

    // ---- 27: forget

    static void p27TheFirstAlone() {
        AsleepPass x = twoByTwo();
        x.learn(0, 0, 1, 3);
        x.learn(0, 0, 1, 9);
        steps(x, 0, 0, NONE, NONE);
        Check.due("forget(1)", x.forget(1), 2);
        steps(x, 0, 2, 4, 8);
    }

    static void p27None() {
        AsleepPass x = full();
        Check.due("forget(0)", x.forget(0), 8);
        Check.due("count(0)", x.count(0), 0);
        Check.due("forget(0) of none", x.forget(0), 0);
        steps(x, 0, 10, 0, 9);
    }

    static void p27All() {
        AsleepPass x = full();
        Check.due("forget(8)", x.forget(8), 8);
        Check.due("count(0)", x.count(0), 8);
        x.forget(3);
        Check.due("forget(3)", x.forget(3), 3);
    }

    static void p27BadBelowZero() {
        AsleepPass x = full();
        for (int n : new int[] {-1, NONE, Integer.MIN_VALUE}) {
            Check.due("forget(" + n + ")", x.forget(n), BAD);
        }
        Check.due("count(0)", x.count(0), 8);
        Check.due("forget(-1) of none", new AsleepPass().forget(-1), BAD);
    }

    static void p27BadAboveWhatThereAre() {
        AsleepPass x = full();
        for (int n : new int[] {9, 10, Integer.MAX_VALUE}) {
            Check.due("forget(" + n + ")", x.forget(n), BAD);
        }
        x.forget(2);
        Check.due("forget(3) of 2", x.forget(3), BAD);
        Check.due("count(0)", x.count(0), 2);
        Check.due("forget(1) of none", new AsleepPass().forget(1), BAD);
    }

    // ---- 28: steps

    static void p28NothingLearnt() {
        steps(twoByTwo(), 0, 10, 0, 9);
        steps(twoByTwo(), 1, 10, 0, 9);
    }

    static void p28NoneCanBe() {
        AsleepPass x = twoByTwo();
        x.learn(0, 0, 1, 20);
        steps(x, 0, 0, NONE, NONE);
        steps(x, 1, 0, NONE, NONE);
    }

    static void p28OneAlone() {
        AsleepPass x = twoByTwo();
        // 6 and 6 more would be 12; 0 is the only one so far off.
        x.learn(0, 0, 1, 7);
        steps(x, 0, 1, 0, 0);
        x.forget(0);
        x.step(1, 1);
        x.learn(0, 0, 1, 9);
        steps(x, 0, 1, 9, 9);
    }

    static void p28FromZeroToNine() {
        AsleepPass x = Check.told("stretch 9 9;bearer plain 0 0;bearer plain 5 0;");
        // 18 and how far, 20 at most: all but 4, 5, 6.
        x.learn(0, 0, 1, 20);
        steps(x, 0, 7, 0, 9);
    }

    static void p28OfTwoTwinsAny() {
        AsleepPass x = Check.told("stretch 1 0;bearer twin 0 0;bearer twin 9 0;");
        x.learn(0, 0, 1, 1);
        steps(x, 0, 10, 0, 9);
        x.learn(0, 1, 0, 2);
        steps(x, 0, 0, NONE, NONE);
    }

    static void p28OfAPaidOneDividedDown() {
        AsleepPass x = Check.told("stretch 0 0;bearer plain 5 0;bearer paid 5 0;");
        x.learn(0, 0, 1, 0);
        // 4, 5, 6: half of 1 and of 0.
        steps(x, 1, 3, 4, 6);
        x.forget(0);
        x.learn(0, 0, 1, 2);
        // 0, 1 and 9: half of 5 and of 4.
        steps(x, 1, 3, 0, 9);
    }

    static void p28AllThatWasLearnt() {
        AsleepPass x = Check.told("stretch 0 0;bearer plain 0 0;bearer plain 4 0;bearer plain 9 0;");
        x.learn(0, 0, 1, 2);
        // 2 and 6 from BEARER 1; from BEARER 2 it is 3.
        steps(x, 0, 2, 2, 6);
        x.learn(0, 0, 2, 3);
        steps(x, 0, 1, 6, 6);
    }

    static void p28AllElseAsItIs() {
        AsleepPass x = Check.told("stretch 0 0;bearer plain 0 0;bearer plain 4 0;bearer plain 9 0;");
        x.learn(0, 0, 1, 4);
        steps(x, 2, 10, 0, 9);
        x.learn(0, 0, 1, 5);
        steps(x, 2, 0, NONE, NONE);
        Check.due("STEPS stay", x.bearer(2, 1), 9);
    }

    static void p28AsItIsNow() {
        AsleepPass x = Check.told("stretch 0 0;bearer plain 0 0;bearer plain 4 0;");
        x.learn(0, 0, 1, 4);
        steps(x, 0, 2, 0, 8);
        x.noise(0, 4);
        steps(x, 0, 1, 4, 4);
        x.noise(0, 5);
        steps(x, 0, 0, NONE, NONE);
    }

    static void p28BadBearer() {
        AsleepPass x = twoByTwo();
        for (int b : NOT_THERE) {
            for (int what = 0; what < 3; what++) {
                Check.due("steps(" + b + ", " + what + ")", x.steps(b, what), BAD);
            }
        }
        Check.due("steps(NONE, 0)", x.steps(NONE, 0), BAD);
        Check.due("where there is none", new AsleepPass().steps(0, 0), BAD);
    }

    static void p28BadWhat() {
        AsleepPass x = twoByTwo();
        for (int what : new int[] {-1, 3, NONE, Integer.MAX_VALUE, Integer.MIN_VALUE}) {
            Check.due("steps(0, " + what + ")", x.steps(0, what), BAD);
        }
        x.learn(0, 0, 1, 20);
        Check.due("BAD ahead of NONE", x.steps(0, 3), BAD);
        Check.due("BAD ahead of NONE", x.steps(2, 1), BAD);
    }
}
