/** Promises 19 to 21: best, next, without. */
public final class BestTest {
    private static final int BAD = AsleepPass.BAD;
    private static final int NONE = AsleepPass.NONE;

    public static void main(String[] args) {
        onOneStretch();
        lookingAhead();
        whateverTheDepth();
        byOneAlone();
        ofSeveralTheLeast();
        refused();
        Check.finish();
    }

    private static void onOneStretch() {
        AsleepPass x = Check.told("start 1;stretch 6 6;bearer plain 0 0;bearer hummer 5 3;bearer tall 9 2;");
        // HARM from nobody: 12, 7, 9.
        Check.fraction("best", x.best(0), x.best(1), 7, 20);
        Check.due("next(0, NONE, 1)", x.next(0, NONE, 1), 1);
        // From the first one, whose STEP is 0: 12, 12, 18.
        Check.due("next(0, 0, 1)", x.next(0, 0, 1), 0);
        Check.due("next(0, 1, 1)", x.next(0, 1, 1), 1);
        Check.due("next(0, 2, 1)", x.next(0, 2, 1), 2);
        Check.fraction("without(0)", x.without(0, 0), x.without(0, 1), 7, 20);
        Check.fraction("without(1)", x.without(1, 0), x.without(1, 1), 9, 20);
        Check.fraction("without(2)", x.without(2, 0), x.without(2, 1), 7, 20);
        x.start(2);
        Check.fraction("best at DEPTH 2", x.best(0), x.best(1), 0, 1);
        Check.due("next(0, NONE, 2): all as good", x.next(0, NONE, 2), 0);
        Check.due("THE ORDER stays", x.stretch(0, 2), 0);
    }

    private static void lookingAhead() {
        // STRETCH 0 is nothing for both; on STRETCH 1 BEARER 1 has warm hands, but the hand over costs 9.
        AsleepPass x = Check.told("start 1;stretch 1 0;stretch 9 9;bearer plain 0 0;bearer plain 9 9;");
        Check.due("next(0, NONE, 1)", x.next(0, NONE, 1), 0);
        x.start(1);
        // By BEARER 1 all along: 1 of 20, then at DEPTH 2 no fall wakes it.
        Check.fraction("best", x.best(0), x.best(1), 1, 20);
        Check.tell(x, "start 2;stretch 1 0;stretch 9 9;bearer plain 0 0;bearer plain 9 9;");
        // A fall on STRETCH 0 (1 of 20), then HARM 9 by BEARER 1 all along, or 18 by any other way.
        Check.fraction("best", x.best(0), x.best(1), 9, 400);
        Check.due("next(0, NONE, 2)", x.next(0, NONE, 2), 1);
        Check.due("next(0, NONE, 4)", x.next(0, NONE, 4), 0);
        Check.due("next(1, 0, 1)", x.next(1, 0, 1), 0);
        Check.due("next(1, 1, 1)", x.next(1, 1, 1), 1);
        Check.fraction("without(1)", x.without(1, 0), x.without(1, 1), 9, 200);
        Check.fraction("without(0)", x.without(0, 0), x.without(0, 1), 9, 400);
    }

    private static void whateverTheDepth() {
        // At DEPTH 1 what harms now counts alone; at DEPTH 3 what harms later counts as well.
        AsleepPass x = Check.told("start 3;stretch 2 0;stretch 0 9;stretch 0 9;bearer hummer 9 0;bearer plain 0 9;");
        Check.due("next(0, NONE, 1)", x.next(0, NONE, 1), 0);
        Check.due("next(0, NONE, 2)", x.next(0, NONE, 2), 0);
        Check.due("next(1, 0, 1)", x.next(1, 0, 1), 0);
        Check.due("next(1, 0, 2)", x.next(1, 0, 2), 1);
        Check.due("next(2, 0, 2)", x.next(2, 0, 2), 0);
        Check.due("next(2, 1, 1)", x.next(2, 1, 1), 1);
        Check.fraction("best", x.best(0), x.best(1), 0, 1);
    }

    /** One BEARER alone: THE BEST is THE ORDER, on ways of all lengths and from all DEPTHS. */
    private static void byOneAlone() {
        StringBuilder text = new StringBuilder("bearer plain 0 1;");
        for (int i = 0; i < 10; i++) {
            text.append("stretch ").append(3 * i % 10).append(' ').append(7 * i % 10).append(';');
            AsleepPass x = Check.told(text.toString());
            for (int depth = 1; depth <= 9; depth++) {
                x.start(depth);
                Check.fraction("best by one alone, from " + depth, x.best(0), x.best(1), x.wakes(0), x.wakes(1));
            }
        }
    }

    private static void ofSeveralTheLeast() {
        AsleepPass x = Check.told("start 1;stretch 5 5;stretch 5 5;bearer plain 1 3;bearer plain 1 3;bearer plain 1 3;");
        Check.due("next(0, NONE, 1)", x.next(0, NONE, 1), 0);
        Check.due("next(0, 2, 1)", x.next(0, 2, 1), 0);
        Check.due("next(1, 2, 1)", x.next(1, 2, 1), 0);
        Check.fraction("best", x.best(0), x.best(1), 7, 20);
    }

    private static void refused() {
        AsleepPass x = Check.told("stretch 5 5;stretch 5 5;bearer plain 1 3;");
        Check.due("next(1, NONE, 1)", x.next(1, NONE, 1), BAD);
        Check.due("next(2, 0, 1)", x.next(2, 0, 1), BAD);
        Check.due("next(-1, 0, 1)", x.next(-1, 0, 1), BAD);
        Check.due("next(0, 1, 1)", x.next(0, 1, 1), BAD);
        Check.due("next(0, -1, 1)", x.next(0, -1, 1), BAD);
        Check.due("next(0, 0, 0)", x.next(0, 0, 0), BAD);
        Check.due("next(0, 0, 10)", x.next(0, 0, 10), BAD);
        Check.due("next(0, 0, 9)", x.next(0, 0, 9), 0);
        Check.due("best(2)", x.best(2), BAD);
        Check.due("best(-1)", x.best(-1), BAD);
        Check.due("without(0, 0)", x.without(0, 0), AsleepPass.STATE);
        Check.due("without(0, 2)", x.without(0, 2), BAD);
        Check.due("without(1, 0)", x.without(1, 0), BAD);
        Check.due("without(-1, 0)", x.without(-1, 0), BAD);
        Check.tell(x, "bearer plain 0 0;bearer plain 0 0;");
        Check.fraction("best on no way", x.best(0), x.best(1), 0, 1);
        Check.fraction("without on no way", x.without(1, 0), x.without(1, 1), 0, 1);
        Check.due("next(0, NONE, 1) on no way", x.next(0, NONE, 1), BAD);
        Check.tell(x, "bearer plain 0 0;");
        Check.due("without the only one", x.without(0, 1), AsleepPass.STATE);
        Check.due("best(0) of nothing", new AsleepPass().best(0), 0);
        Check.due("without(0, 0) of nothing", new AsleepPass().without(0, 0), BAD);
    }
}
