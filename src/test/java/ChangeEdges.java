import java.util.function.IntBinaryOperator;

/** Edges of promises 9 to 14: start, noise, cold, step, warm, put. */
final class ChangeEdges {
    private static final int BAD = AsleepPass.BAD;
    private static final int[] NOT_THERE = {-1, 2, 3, 5, 6, 9, 10, AsleepPass.NONE, Integer.MAX_VALUE, Integer.MIN_VALUE};
    private static final int[] OUT_OF_BOUNDS = {-1, 10, 11, 256, AsleepPass.NONE, Integer.MAX_VALUE, Integer.MIN_VALUE};

    private ChangeEdges() {
    }

    private static AsleepPass two() {
        return Check.told("start 3;stretch 1 2;stretch 3 4;bearer plain 5 6;bearer paid 7 8;carry 1 1;");
    }

    /** From 0 to 9 and back, each answering what it was; the other one stays. */
    private static void allValues(String name, IntBinaryOperator change, IntBinaryOperator ask, int part) {
        for (int n = 0; n < 2; n++) {
            int other = ask.applyAsInt(1 - n, part);
            int was = ask.applyAsInt(n, part);
            for (int v : new int[] {0, 1, 2, 3, 4, 5, 6, 7, 8, 9, 9, 0, 0}) {
                Check.due(name + "(" + n + ", " + v + ")", change.applyAsInt(n, v), was);
                Check.due("it is " + v, ask.applyAsInt(n, part), v);
                was = v;
            }
            Check.due("the other one stays", ask.applyAsInt(1 - n, part), other);
        }
    }

    private static void refused(String name, AsleepPass x, IntBinaryOperator change, int[] places, int[] values) {
        String was = Check.state(x);
        for (int n : places) {
            for (int v : values) {
                Check.due(name + "(" + n + ", " + v + ")", change.applyAsInt(n, v), BAD);
            }
        }
        Check.dueTrue("all stays", was.equals(Check.state(x)));
    }

    private static final int[] BOTH = {0, 1};
    private static final int[] ALL = {0, 1, 2, 3, 4, 5, 6, 7, 8, 9};

    // ---- 9: start

    static void p09FromOneToNine() {
        AsleepPass x = two();
        int was = 3;
        for (int v : new int[] {1, 2, 3, 4, 5, 6, 7, 8, 9, 9, 1}) {
            Check.due("start(" + v + ")", x.start(v), was);
            Check.due("rule(2)", x.rule(2), v);
            was = v;
        }
    }

    static void p09BadZeroTenAndBeyond() {
        AsleepPass x = two();
        for (int v : new int[] {0, -1, 10, 11, AsleepPass.NONE, Integer.MAX_VALUE, Integer.MIN_VALUE}) {
            Check.due("start(" + v + ")", x.start(v), BAD);
            Check.due("rule(2)", x.rule(2), 3);
        }
    }

    static void p09WhereThereIsNoWay() {
        AsleepPass x = new AsleepPass();
        Check.due("start(9)", x.start(9), 5);
        Check.due("start(0)", x.start(0), BAD);
        Check.due("rule(2)", x.rule(2), 9);
    }

    // ---- 10: noise

    static void p10FromZeroToNine() {
        AsleepPass x = two();
        allValues("noise", x::noise, x::stretch, 0);
    }

    static void p10BadNoSuchStretch() {
        AsleepPass x = two();
        refused("noise", x, x::noise, NOT_THERE, ALL);
        AsleepPass none = new AsleepPass();
        refused("noise where there is none", none, none::noise, ALL, ALL);
    }

    static void p10BadOutOfBounds() {
        AsleepPass x = two();
        refused("noise", x, x::noise, BOTH, OUT_OF_BOUNDS);
    }

    // ---- 11: cold

    static void p11FromZeroToNine() {
        AsleepPass x = two();
        allValues("cold", x::cold, x::stretch, 1);
    }

    static void p11BadNoSuchStretch() {
        AsleepPass x = two();
        refused("cold", x, x::cold, NOT_THERE, ALL);
        AsleepPass none = new AsleepPass();
        refused("cold where there is none", none, none::cold, ALL, ALL);
    }

    static void p11BadOutOfBounds() {
        AsleepPass x = two();
        refused("cold", x, x::cold, BOTH, OUT_OF_BOUNDS);
    }

    // ---- 12: step

    static void p12FromZeroToNine() {
        AsleepPass x = two();
        allValues("step", x::step, x::bearer, 1);
    }

    static void p12BadNoSuchBearer() {
        AsleepPass x = two();
        refused("step", x, x::step, NOT_THERE, ALL);
        AsleepPass none = new AsleepPass();
        refused("step where there is none", none, none::step, ALL, ALL);
    }

    static void p12BadOutOfBounds() {
        AsleepPass x = two();
        refused("step", x, x::step, BOTH, OUT_OF_BOUNDS);
    }

    // ---- 13: warm

    static void p13FromZeroToNine() {
        AsleepPass x = two();
        allValues("warm", x::warm, x::bearer, 2);
    }

    static void p13BadNoSuchBearer() {
        AsleepPass x = two();
        refused("warm", x, x::warm, NOT_THERE, ALL);
        AsleepPass none = new AsleepPass();
        refused("warm where there is none", none, none::warm, ALL, ALL);
    }

    static void p13BadOutOfBounds() {
        AsleepPass x = two();
        refused("warm", x, x::warm, BOTH, OUT_OF_BOUNDS);
    }

    // ---- 14: put

    static void p14WhomItHad() {
        AsleepPass x = two();
        Check.due("put(0, 0), the same", x.put(0, 0), 0);
        Check.due("put(0, 1)", x.put(0, 1), 0);
        Check.due("put(0, 1), the same", x.put(0, 1), 1);
        Check.due("put(1, 0)", x.put(1, 0), 1);
        Check.due("stretch(0, 2)", x.stretch(0, 2), 1);
        Check.due("stretch(1, 2)", x.stretch(1, 2), 0);
    }

    static void p14TheLastOfAll() {
        AsleepPass x = Check.told("stretch0 0;".repeat(10) + "bearer twin0 0;".repeat(6));
        Check.due("put(9, 5)", x.put(9, 5), 0);
        Check.due("stretch(9, 2)", x.stretch(9, 2), 5);
        Check.due("put(10, 5)", x.put(10, 5), BAD);
        Check.due("put(9, 6)", x.put(9, 6), BAD);
    }

    static void p14BadNoSuchStretch() {
        AsleepPass x = two();
        refused("put", x, x::put, NOT_THERE, BOTH);
        AsleepPass none = Check.told("bearer plain 0 0;");
        refused("put where there are none", none, none::put, ALL, BOTH);
    }

    static void p14BadNoSuchBearer() {
        AsleepPass x = two();
        refused("put", x, x::put, BOTH, NOT_THERE);
    }

    static void p14BadBoth() {
        AsleepPass x = two();
        refused("put", x, x::put, NOT_THERE, NOT_THERE);
    }
}
