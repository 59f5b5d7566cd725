/** Promises 34, 35 and 40: keep, back, count. */
public final class ImagesTest {
    private static final int BAD = AsleepPass.BAD;

    public static void main(String[] args) {
        keepAndBack();
        whatAnImageIsNot();
        counts();
        Check.finish();
    }

    private static void keepAndBack() {
        AsleepPass x = Check.told("start 3;stretch 1 2;stretch 3 4;bearer tall 5 6;bearer twin 7 8;carry 1 1;");
        Check.due("back(0)", x.back(0), AsleepPass.STATE);
        Check.due("keep(0)", x.keep(0), 0);
        String first = Check.state(x);
        Check.due("count(2)", x.count(2), 1);
        x.start(9);
        x.noise(0, 9);
        x.cold(1, 9);
        x.step(0, 9);
        x.warm(1, 9);
        x.put(0, 1);
        x.put(1, 0);
        Check.due("back(1)", x.back(1), AsleepPass.STATE);
        Check.due("keep(1)", x.keep(1), 0);
        String second = Check.state(x);
        Check.due("back(0)", x.back(0), 2);
        Check.due("count(2)", x.count(2), 2);
        Check.dueTrue("all is as it was at first", sameWay(first, Check.state(x)));
        x.start(1);
        Check.due("back(0) again", x.back(0), 2);
        Check.dueTrue("an IMAGE stays as it is", sameWay(first, Check.state(x)));
        Check.due("back(1)", x.back(1), 2);
        Check.dueTrue("all is as it was then", sameWay(second, Check.state(x)));
        Check.due("keep(0)", x.keep(0), 1);
        x.start(4);
        Check.due("back(0)", x.back(0), 2);
        Check.due("rule(2)", x.rule(2), 9);
        for (int k : new int[] {-1, 2, Integer.MAX_VALUE, Integer.MIN_VALUE}) {
            Check.due("keep(" + k + ")", x.keep(k), BAD);
            Check.due("back(" + k + ")", x.back(k), BAD);
        }
        AsleepPass none = new AsleepPass();
        Check.due("keep(1) of nothing", none.keep(1), 0);
        Check.due("back(1) of nothing", none.back(1), 0);
    }

    /** Whether two states are the same but for what count() tells, fault and torn. */
    private static boolean sameWay(String one, String other) {
        String[] a = one.split(" ");
        String[] b = other.split(" ");
        for (int n = 0; n < 63; n++) {
            if (!a[n].equals(b[n])) {
                return false;
            }
        }
        return true;
    }

    private static void whatAnImageIsNot() {
        AsleepPass x = Check.told("stretch 1 2;bearer tall 5 6;");
        x.learn(0, 0, 0, 3);
        x.keep(0);
        x.learn(0, 0, 0, 4);
        x.mark(0, 4);
        x.sheet(0, 0, 5);
        x.feed(0);
        Check.due("back(0)", x.back(0), 1);
        Check.due("LEARNT stay", x.count(0), 2);
        Check.due("MARKED stay", x.count(1), 1);
        Check.due("THE TAPE stays", x.count(3), 8);
        Check.due("SHEETS stay", x.count(4), 5);
    }

    private static void counts() {
        AsleepPass x = Check.told("stretch 0 0;".repeat(5) + "bearer tall 5 6;bearer tall 5 6;bearer tall 5 6;");
        Check.due("count(5)", x.count(5), 0);
        x.put(4, 2);
        Check.due("count(5)", x.count(5), 1);
        x.put(2, 1);
        Check.due("count(5)", x.count(5), 3);
        x.put(0, 1);
        Check.due("count(5)", x.count(5), 4);
        x.put(1, 1);
        Check.due("count(5)", x.count(5), 2);
        Check.due("count(4)", x.count(4), AsleepPass.NONE);
        x.sheet(1, 0, 7);
        Check.due("count(4), SHEET 0 alone", x.count(4), AsleepPass.NONE);
        x.sheet(0, 0, 0);
        Check.due("count(4)", x.count(4), 0);
        x.sheet(0, 1, 40);
        Check.due("count(4)", x.count(4), 40);
        Check.due("count(6)", x.count(6), BAD);
        Check.due("count(-1)", x.count(-1), BAD);
    }
}
