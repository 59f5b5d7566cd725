/** Promises 9 to 14: start, noise, cold, step, warm, put. */
public final class ChangeTest {
    private static final int BAD = AsleepPass.BAD;

    public static void main(String[] args) {
        AsleepPass x = Check.told("stretch 1 2;stretch 3 4;bearer plain 5 6;bearer paid 7 8;");
        eachBecomes(x);
        eachIsRefused(x);
        theyCount();
        Check.finish();
    }

    private static void eachBecomes(AsleepPass x) {
        Check.due("start(1)", x.start(1), 5);
        Check.due("start(9)", x.start(9), 1);
        Check.due("rule(2)", x.rule(2), 9);
        Check.due("noise(1, 9)", x.noise(1, 9), 3);
        Check.due("noise(1, 0)", x.noise(1, 0), 9);
        Check.due("stretch(1, 0)", x.stretch(1, 0), 0);
        Check.due("stretch(0, 0)", x.stretch(0, 0), 1);
        Check.due("cold(0, 9)", x.cold(0, 9), 2);
        Check.due("cold(0, 0)", x.cold(0, 0), 9);
        Check.due("stretch(0, 1)", x.stretch(0, 1), 0);
        Check.due("stretch(1, 1)", x.stretch(1, 1), 4);
        Check.due("step(1, 9)", x.step(1, 9), 7);
        Check.due("step(1, 0)", x.step(1, 0), 9);
        Check.due("bearer(1, 1)", x.bearer(1, 1), 0);
        Check.due("bearer(0, 1)", x.bearer(0, 1), 5);
        Check.due("warm(0, 9)", x.warm(0, 9), 6);
        Check.due("warm(0, 0)", x.warm(0, 0), 9);
        Check.due("bearer(0, 2)", x.bearer(0, 2), 0);
        Check.due("bearer(1, 2)", x.bearer(1, 2), 8);
        Check.due("put(1, 1)", x.put(1, 1), 0);
        Check.due("put(1, 0)", x.put(1, 0), 1);
        Check.due("put(0, 1)", x.put(0, 1), 0);
        Check.due("stretch(0, 2)", x.stretch(0, 2), 1);
        Check.due("stretch(1, 2)", x.stretch(1, 2), 0);
    }

    private static void eachIsRefused(AsleepPass x) {
        String was = Check.state(x);
        int[] out = {-1, 10, Integer.MIN_VALUE, Integer.MAX_VALUE};
        for (int v : out) {
            Check.due("start(" + v + ")", x.start(v), BAD);
            Check.due("noise(0, " + v + ")", x.noise(0, v), BAD);
            Check.due("cold(0, " + v + ")", x.cold(0, v), BAD);
            Check.due("step(0, " + v + ")", x.step(0, v), BAD);
            Check.due("warm(0, " + v + ")", x.warm(0, v), BAD);
            Check.due("put(0, " + v + ")", x.put(0, v), BAD);
        }
        int[] missing = {-1, 2, Integer.MIN_VALUE, Integer.MAX_VALUE, AsleepPass.NONE};
        for (int n : missing) {
            Check.due("noise(" + n + ", 1)", x.noise(n, 1), BAD);
            Check.due("cold(" + n + ", 1)", x.cold(n, 1), BAD);
            Check.due("step(" + n + ", 1)", x.step(n, 1), BAD);
            Check.due("warm(" + n + ", 1)", x.warm(n, 1), BAD);
            Check.due("put(" + n + ", 1)", x.put(n, 1), BAD);
            Check.due("put(1, " + n + ")", x.put(1, n), BAD);
        }
        Check.due("start(0)", x.start(0), BAD);
        Check.dueTrue("what is refused changes nothing", was.equals(Check.state(x)));
    }

    private static void theyCount() {
        AsleepPass x = Check.told("start 1;stretch 0 0;bearer plain 0 0;bearer plain 3 0;");
        Check.due("wakes(0)", x.wakes(0), 0);
        x.noise(0, 5);
        Check.fraction("wakes by NOISE", x.wakes(0), x.wakes(1), 1, 4);
        x.cold(0, 5);
        Check.fraction("wakes by COLD", x.wakes(0), x.wakes(1), 1, 2);
        x.warm(0, 1);
        Check.fraction("wakes by WARMTH", x.wakes(0), x.wakes(1), 9, 20);
        x.put(0, 1);
        Check.fraction("wakes by THE ORDER", x.wakes(0), x.wakes(1), 1, 2);
        Check.due("harm by STEPS", x.harm(0, 0, 1), 13);
        x.step(1, 9);
        Check.due("harm by STEPS", x.harm(0, 0, 1), 19);
        x.start(2);
        Check.fraction("wakes by START", x.wakes(0), x.wakes(1), 0, 1);
    }
}
