/** Edges of promises 19 to 21: best, next, without; of THE BEST. */
final class BestEdges {
    private static final int BAD = AsleepPass.BAD;
    private static final int NONE = AsleepPass.NONE;
    private static final int STATE = AsleepPass.STATE;
    private static final int[] NO_PART = {-1, 2, 3, NONE, Integer.MAX_VALUE, Integer.MIN_VALUE};
    private static final int[] NOT_THERE = {-1, -2, -3, -5, 2, 6, 10, Integer.MAX_VALUE, Integer.MIN_VALUE};

    private BestEdges() {
    }

    private static AsleepPass twoByTwo() {
        return Check.told("start 1;stretch 5 5;stretch 5 5;bearer plain 1 3;bearer plain 4 4;");
    }

    private static void best(AsleepPass x, long above, long below) {
        Check.fraction("best", x.best(0), x.best(1), above, below);
    }

    private static void without(AsleepPass x, int b, long above, long below) {
        Check.fraction("without(" + b + ")", x.without(b, 0), x.without(b, 1), above, below);
    }

    // ---- 19: best

    static void p19OnNoWay() {
        best(new AsleepPass(), 0, 1);
        best(Check.told("start 1;bearer plain 0 0;"), 0, 1);
    }

    static void p19ByTheOnlyOne() {
        AsleepPass x = Check.told("start 2;stretch 4 0;stretch 9 9;bearer plain 0 0;");
        best(x, 9, 50);
        Check.fraction("wakes", x.wakes(0), x.wakes(1), 9, 50);
    }

    static void p19ItMayBeSure() {
        best(Check.told("start 1;stretch 0 0;bearer plain 0 0;"), 0, 1);
        // HARM 18 twice from DEPTH 2, by one alone.
        best(Check.told("start 2;stretch 9 9;stretch 9 9;bearer plain 0 0;"), 81, 100);
    }

    static void p19AwakeBehindARise() {
        // 1 of 5 at once, or risen to 2 and fallen twice, by 1 of 4 and 3 of 10.
        best(Check.told("start 1;stretch 4 0;stretch 5 0;stretch 6 0;bearer plain 0 0;"), 13, 50);
    }

    static void p19AtNineItStays() {
        // By 1 of 20 each nine falls at once (whatever comes then), or once at 9 (19 of 20) and nine falls.
        best(Check.told("start 9;" + "stretch1 0;".repeat(10) + "bearer plain0 0;"), 39, 10240000000000L);
    }

    static void p19AtTheFirstStretchFromNobody() {
        // STEPS are far apart, but nobody hands it over ahead of STRETCH 0.
        best(Check.told("start 1;stretch 0 9;bearer plain 0 0;bearer plain 9 8;"), 1, 20);
    }

    static void p19NotByTheOrder() {
        AsleepPass x = Check.told("start 1;stretch 0 9;bearer plain 0 0;bearer plain 0 9;");
        best(x, 0, 1);
        Check.fraction("wakes", x.wakes(0), x.wakes(1), 9, 20);
        x.put(0, 1);
        best(x, 0, 1);
    }

    static void p19WhateverTheDepth() {
        // By the hummer all along HARM 3 and 3; by BEARER 0 it is 5, to take it from the other one 5 more.
        AsleepPass x = Check.told("start 2;stretch 5 0;stretch 5 0;bearer plain 0 0;bearer hummer 5 0;");
        best(x, 9, 400);
        Check.due("next(0, NONE, 2)", x.next(0, NONE, 2), 1);
        Check.due("next(1, 0, 1)", x.next(1, 0, 1), 0);
        Check.due("next(1, 1, 1)", x.next(1, 1, 1), 1);
    }

    static void p19Bad() {
        AsleepPass x = twoByTwo();
        for (int what : NO_PART) {
            Check.due("best(" + what + ")", x.best(what), BAD);
            Check.due("best(" + what + ") on no way", new AsleepPass().best(what), BAD);
        }
    }

    // ---- 20: next

    static void p20OfSeveralTheLeast() {
        AsleepPass x = Check.told("start 1;stretch 3 0;stretch 3 0;bearer plain 0 0;bearer plain 0 0;bearer plain 0 0;");
        for (int a = 0; a < 3; a++) {
            for (int d = 1; d <= 9; d++) {
                Check.due("next(0, " + a + ", " + d + ")", x.next(0, a, d), 0);
                Check.due("next(1, " + a + ", " + d + ")", x.next(1, a, d), 0);
            }
        }
        Check.due("next(0, NONE, 1)", x.next(0, NONE, 1), 0);
    }

    static void p20TheLeastWhereNoneCanWakeIt() {
        // On the last STRETCH at DEPTH 2 and more all are as good, even one who harms more.
        AsleepPass x = Check.told("start 1;stretch 0 9;stretch 0 9;bearer plain 9 0;bearer plain 0 9;");
        Check.due("next(1, 1, 1)", x.next(1, 1, 1), 1);
        for (int d = 2; d <= 9; d++) {
            Check.due("next(1, 1, " + d + ")", x.next(1, 1, d), 0);
        }
        for (int d = 3; d <= 9; d++) {
            Check.due("next(0, 1, " + d + ")", x.next(0, 1, d), 0);
        }
    }

    static void p20ALaterOneWhoIsBetter() {
        AsleepPass x = Check.told("start 1;stretch 0 9;bearer plain 0 0;bearer plain 0 1;bearer plain 0 2;bearer plain 0 2;"
            + "bearer plain 0 1;");
        Check.due("the first of the best two", x.next(0, NONE, 1), 2);
    }

    static void p20FromNobodyForStretchZeroAlone() {
        AsleepPass x = twoByTwo();
        Check.due("next(0, NONE, 1)", x.next(0, NONE, 1), 1);
        Check.due("next(1, NONE, 1)", x.next(1, NONE, 1), BAD);
        Check.due("next(2, NONE, 1)", x.next(2, NONE, 1), BAD);
        Check.due("next(-1, NONE, 1)", x.next(-1, NONE, 1), BAD);
    }

    static void p20FromABearerOnStretchZero() {
        AsleepPass x = twoByTwo();
        // HARM from BEARER 0: 7 by himself, 6 and 3 by the other.
        Check.due("next(0, 0, 1)", x.next(0, 0, 1), 0);
        Check.due("next(0, 1, 1)", x.next(0, 1, 1), 1);
    }

    static void p20DepthOneAndNine() {
        AsleepPass x = twoByTwo();
        Check.due("next(1, 1, 1)", x.next(1, 1, 1), 1);
        Check.due("next(1, 1, 9)", x.next(1, 1, 9), 0);
    }

    static void p20BadDepth() {
        AsleepPass x = twoByTwo();
        for (int d : new int[] {0, -1, 10, 11, NONE, Integer.MAX_VALUE, Integer.MIN_VALUE}) {
            Check.due("next(0, 0, " + d + ")", x.next(0, 0, d), BAD);
            Check.due("next(0, NONE, " + d + ")", x.next(0, NONE, d), BAD);
        }
    }

    static void p20BadStretch() {
        AsleepPass x = twoByTwo();
        for (int i : NOT_THERE) {
            Check.due("next(" + i + ", 0, 1)", x.next(i, 0, 1), BAD);
        }
        Check.due("next(NONE, 0, 1)", x.next(NONE, 0, 1), BAD);
        Check.due("on no way", Check.told("bearer plain 0 0;").next(0, NONE, 1), BAD);
        Check.due("of nothing", new AsleepPass().next(0, NONE, 1), BAD);
    }

    static void p20BadBearer() {
        AsleepPass x = twoByTwo();
        for (int a : NOT_THERE) {
            Check.due("next(0, " + a + ", 1)", x.next(0, a, 1), BAD);
            Check.due("next(1, " + a + ", 1)", x.next(1, a, 1), BAD);
        }
    }

    static void p20FromTheLastStretchBack() {
        // BEARER 0 harms less now (1, not 3), but then STRETCH 1 is cold (9, not 0).
        AsleepPass x = Check.told("start 2;stretch 3 0;stretch 0 9;bearer hummer 0 0;bearer plain 9 9;");
        Check.due("now counts alone", x.next(0, NONE, 1), 0);
        Check.due("both count", x.next(0, NONE, 2), 1);
        Check.due("it can't wake: the least", x.next(0, NONE, 3), 0);
        best(x, 0, 1);
    }

    static void p20TenBySix() {
        AsleepPass x = Check.told("start 9;" + "stretch0 9;".repeat(10) + "bearer plain0 0;".repeat(5) + "bearer plain0 9;");
        Check.due("next(9, 5, 1)", x.next(9, 5, 1), 5);
        Check.due("next(9, 0, 1)", x.next(9, 0, 1), 5);
        Check.due("next(0, NONE, 1)", x.next(0, NONE, 1), 5);
        best(x, 0, 1);
    }

    // ---- 21: without

    static void p21StateThereIsNoOtherOne() {
        AsleepPass x = Check.told("stretch 5 5;bearer plain 1 3;");
        Check.due("without(0, 0)", x.without(0, 0), STATE);
        Check.due("without(0, 1)", x.without(0, 1), STATE);
        Check.due("on no way", Check.told("bearer plain 1 3;").without(0, 0), STATE);
    }

    static void p21BadAheadOfState() {
        AsleepPass x = Check.told("stretch 5 5;bearer plain 1 3;");
        Check.due("without(0, 2)", x.without(0, 2), BAD);
        Check.due("without(0, -1)", x.without(0, -1), BAD);
        Check.due("without(1, 0)", x.without(1, 0), BAD);
        Check.due("without(NONE, 0)", x.without(NONE, 0), BAD);
        Check.due("without(0, 0) where there is none", new AsleepPass().without(0, 0), BAD);
    }

    static void p21OfTwo() {
        AsleepPass x = twoByTwo();
        // From DEPTH 1 one fall on STRETCH 0 alone: HARM 7 by BEARER 0, 6 by BEARER 1.
        without(x, 0, 3, 10);
        without(x, 1, 7, 20);
        best(x, 3, 10);
    }

    static void p21OnNoWay() {
        AsleepPass x = Check.told("start 1;bearer plain 0 0;bearer plain 0 0;");
        without(x, 0, 0, 1);
        without(x, 1, 0, 1);
    }

    static void p21TheOneInTheOrder() {
        AsleepPass x = Check.told("start 1;stretch 0 9;bearer plain 0 9;bearer plain 0 5;");
        without(x, 0, 1, 5);
        Check.due("THE ORDER stays", x.stretch(0, 2), 0);
        Check.due("rule(1)", x.rule(1), 2);
        best(x, 0, 1);
    }

    static void p21TheLastOfSix() {
        AsleepPass x = Check.told("start 1;stretch 0 9;" + "bearer plain0 4;".repeat(5) + "bearer plain0 9;");
        without(x, 5, 1, 4);
        without(x, 4, 0, 1);
        Check.due("without(6, 0)", x.without(6, 0), BAD);
    }

    static void p21BadBearer() {
        AsleepPass x = twoByTwo();
        for (int b : NOT_THERE) {
            Check.due("without(" + b + ", 0)", x.without(b, 0), BAD);
        }
    }

    static void p21BadWhat() {
        AsleepPass x = twoByTwo();
        for (int what : NO_PART) {
            Check.due("without(0, " + what + ")", x.without(0, what), BAD);
        }
    }
}
