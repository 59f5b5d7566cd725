/** Promises 26 to 28: learn, forget, steps. */
public final class LearntTest {
    private static final int BAD = AsleepPass.BAD;
    private static final int NONE = AsleepPass.NONE;

    public static void main(String[] args) {
        learnAndForget();
        stepsOfAPlainOne();
        stepsOfAPaidOne();
        allElseAsItIs();
        refused();
        Check.finish();
    }

    private static void learnAndForget() {
        AsleepPass x = Check.told("stretch 1 0;bearer plain 4 0;bearer plain 6 0;");
        for (int n = 1; n <= 8; n++) {
            Check.due("learn " + n, x.learn(0, 0, 1, n == 1 ? 0 : 20), n);
        }
        Check.due("learn 9", x.learn(0, 0, 1, 3), AsleepPass.FULL);
        Check.due("learn 9, BAD comes first", x.learn(0, 0, 1, 21), BAD);
        Check.due("count(0)", x.count(0), 8);
        Check.due("forget(9)", x.forget(9), BAD);
        Check.due("forget(-1)", x.forget(-1), BAD);
        Check.due("forget(8)", x.forget(8), 8);
        Check.due("forget(3)", x.forget(3), 8);
        Check.due("count(0)", x.count(0), 3);
        Check.due("forget(4)", x.forget(4), BAD);
        Check.due("forget(0)", x.forget(0), 3);
        Check.due("learn", x.learn(0, NONE, 1, 1), 1);
        Check.due("steps(0, 0)", x.steps(0, 0), 10);
        x.learn(0, 0, 1, 9);
        Check.due("steps(0, 0)", x.steps(0, 0), 0);
        Check.due("forget(1), the first stays", x.forget(1), 2);
        Check.due("steps(0, 0)", x.steps(0, 0), 10);
    }

    private static void stepsOfAPlainOne() {
        AsleepPass x = Check.told("stretch 1 0;bearer plain 4 0;bearer plain 6 0;");
        Check.due("all are free", x.steps(0, 0), 10);
        Check.due("the least", x.steps(0, 1), 0);
        Check.due("the greatest", x.steps(0, 2), 9);
        x.learn(0, 0, 1, 3);
        Check.due("4 or 8", x.steps(0, 0), 2);
        Check.due("4 or 8", x.steps(0, 1), 4);
        Check.due("4 or 8", x.steps(0, 2), 8);
        Check.due("2 or 6", x.steps(1, 0), 2);
        Check.due("2 or 6", x.steps(1, 1), 2);
        Check.due("2 or 6", x.steps(1, 2), 6);
        x.learn(0, 1, 0, 3);
        Check.due("the other way as well", x.steps(0, 0), 2);
        x.learn(0, NONE, 0, 2);
        for (int b = 0; b < 2; b++) {
            Check.due("never so", x.steps(b, 0), 0);
            Check.due("never so", x.steps(b, 1), NONE);
            Check.due("never so", x.steps(b, 2), NONE);
        }
    }

    private static void stepsOfAPaidOne() {
        AsleepPass x = Check.told("stretch 0 0;stretch 9 9;bearer plain 4 0;bearer paid 6 0;");
        x.learn(0, 0, 1, 1);
        // Half of 2 or 3: STEPS 1, 2, 6, 7.
        Check.due("steps(1, 0)", x.steps(1, 0), 4);
        Check.due("steps(1, 1)", x.steps(1, 1), 1);
        Check.due("steps(1, 2)", x.steps(1, 2), 7);
        x.learn(0, 1, 0, 3);
        Check.due("steps(1, 0)", x.steps(1, 0), 2);
        Check.due("steps(1, 1)", x.steps(1, 1), 1);
        Check.due("steps(1, 2)", x.steps(1, 2), 7);
        x.forget(0);
        x.learn(1, 1, 0, 20);
        // 18 and how far STEPS differ, 20 at most: 2 or more.
        Check.due("steps(1, 0)", x.steps(1, 0), 7);
        Check.due("steps(1, 1)", x.steps(1, 1), 0);
        Check.due("steps(1, 2)", x.steps(1, 2), 9);
    }

    private static void allElseAsItIs() {
        AsleepPass x = Check.told("stretch 1 0;bearer plain 4 0;bearer plain 6 0;bearer plain 0 0;");
        x.learn(0, 0, 1, 3);
        Check.due("one who is not in it, and it is so", x.steps(2, 0), 10);
        x.step(0, 0);
        Check.due("one who is not in it, and it is not so", x.steps(2, 0), 0);
        Check.due("steps(1, 0)", x.steps(1, 0), 1);
        Check.due("steps(1, 1)", x.steps(1, 1), 2);
        Check.due("its STEP stays", x.bearer(1, 1), 6);
        x.noise(0, 3);
        Check.due("steps(1, 1)", x.steps(1, 1), 0);
        x.noise(0, 4);
        Check.due("steps(1, 0)", x.steps(1, 0), 0);
    }

    private static void refused() {
        AsleepPass x = Check.told("stretch 1 0;bearer plain 4 0;bearer plain 6 0;");
        Check.due("learn(1, 0, 1, 0)", x.learn(1, 0, 1, 0), BAD);
        Check.due("learn(-1, 0, 1, 0)", x.learn(-1, 0, 1, 0), BAD);
        Check.due("learn(0, 2, 1, 0)", x.learn(0, 2, 1, 0), BAD);
        Check.due("learn(0, -1, 1, 0)", x.learn(0, -1, 1, 0), BAD);
        Check.due("learn(0, 0, 2, 0)", x.learn(0, 0, 2, 0), BAD);
        Check.due("learn(0, 0, NONE, 0)", x.learn(0, 0, NONE, 0), BAD);
        Check.due("learn(0, 0, 1, -1)", x.learn(0, 0, 1, -1), BAD);
        Check.due("learn(0, 0, 1, 21)", x.learn(0, 0, 1, 21), BAD);
        Check.due("count(0)", x.count(0), 0);
        Check.due("steps(2, 0)", x.steps(2, 0), BAD);
        Check.due("steps(-1, 0)", x.steps(-1, 0), BAD);
        Check.due("steps(0, 3)", x.steps(0, 3), BAD);
        Check.due("steps(0, -1)", x.steps(0, -1), BAD);
    }
}
