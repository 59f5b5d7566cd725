import java.lang.reflect.Method;
import java.lang.reflect.Modifier;
import java.util.ArrayList;
import java.util.Arrays;
import java.util.Comparator;
import java.util.List;
import java.util.function.Consumer;

/** What holds for all calls: what is refused or only asked changes nothing, nothing is thrown, 512 calls. */
final class RefusalEdges {
    private static final int NONE = AsleepPass.NONE;
    private static final int[] EXTREMES = {Integer.MIN_VALUE, Integer.MIN_VALUE + 1, -41, -21, -11, -5, -4, -3, -2, -1, 0, 1,
        2, 3, 4, 5, 6, 7, 8, 9, 10, 11, 19, 20, 21, 22, 39, 40, 41, 320, 321, Integer.MAX_VALUE - 1, Integer.MAX_VALUE};
    /** Calls that change something when they are not refused. */
    private static final List<String> CHANGING = List.of("feed", "end", "text", "start", "noise", "cold", "step", "warm",
        "put", "learn", "forget", "mark", "wipe", "keep", "back", "sheet", "lay", "read");

    private RefusalEdges() {
    }

    /** One in which there is something of everything. */
    private static AsleepPass ample() {
        AsleepPass x = Check.told("start 2;stretch 4 3;stretch 5 9;stretch 1 6;bearer plain 2 3;bearer twin 6 1;carry 1 1;");
        x.learn(1, 0, 1, 17);
        x.learn(2, 1, 0, 8);
        x.mark(2, 3);
        x.mark(0, 1);
        x.keep(0);
        x.put(2, 1);
        x.noise(0, 3);
        x.sheet(0, 1, 5);
        x.lay(0, 0, 2);
        x.lay(0, 3, 1);
        x.sheet(1, 0, 3);
        x.lay(1, 1, 9);
        x.read(0, 2, 0, 1);
        x.feed(0x7374617274203700L);
        x.end(7);
        return x;
    }

    /** One that is full: no more bytes, LEARNT, MARKED. */
    private static AsleepPass full() {
        AsleepPass x = ample();
        while (x.feed(0x2020202020202020L) >= 0) {
            continue;
        }
        while (x.learn(0, NONE, 1, 5) >= 0) {
            continue;
        }
        while (x.mark(1, 2) >= 0) {
            continue;
        }
        return x;
    }

    /** Everything that an object lets be known, down to what it keeps inside; it changes the object. */
    private static String allOf(AsleepPass x) {
        return x.fault() + " " + allButFault(x);
    }

    private static String allButFault(AsleepPass x) {
        StringBuilder all = new StringBuilder(Check.stateButFault(x));
        for (int i = 0; i < 3; i++) {
            all.append(" h").append(x.harm(i, 0, 1)).append(' ').append(x.harm(i, 1, 0)).append(' ').append(x.awake(i, 0));
        }
        all.append(" b").append(x.best(0)).append(' ').append(x.wakes(1)).append(' ').append(x.carry(7, 1));
        for (int n = x.count(0); n >= 0; n--) {
            x.forget(n);
            all.append(" s").append(x.steps(0, 0)).append(x.steps(0, 1)).append(x.steps(1, 0)).append(x.steps(1, 2));
        }
        for (int n = x.count(1); n >= 0; n--) {
            x.wipe(n);
            all.append(" p").append(x.paths()).append(' ').append(x.eye(2)).append(' ').append(x.sure(0));
        }
        sheetsOf(x, all);
        for (int k = 0; k < 2; k++) {
            all.append(" i").append(x.back(k)).append(' ').append(Check.stateButFault(x));
        }
        return all.append(" t").append(x.text()).append(x.fault()).append(x.rule(2)).toString();
    }

    /** Each pair of CELLS by what a read() of it makes of THE ORDER. */
    private static void sheetsOf(AsleepPass x, StringBuilder all) {
        for (int k = 0; k < 4; k++) {
            for (int lane = 0; lane < 3; lane++) {
                all.append(" r").append(x.read(k, lane, 0, 0)).append(x.torn());
            }
            for (int f = 0; f < 5; f++) {
                all.append(" r").append(x.read(k, k == 0 ? 1 : 0, f, 1)).append(x.torn());
                all.append(x.stretch(0, 2)).append(x.stretch(1, 2)).append(x.stretch(2, 2));
            }
        }
    }

    static void termsAProbeSeesEveryChange() {
        List<Consumer<AsleepPass>> changes = List.of(x -> x.feed(0), x -> x.end(6), x -> x.text(), x -> x.start(3),
            x -> x.noise(2, 0), x -> x.cold(2, 0), x -> x.step(1, 0), x -> x.warm(1, 0), x -> x.put(0, 1),
            x -> x.learn(0, 0, 0, 5), x -> x.forget(1), x -> x.mark(1, 2), x -> x.wipe(1), x -> x.keep(0), x -> x.keep(1),
            x -> x.back(0), x -> x.sheet(3, 2, 0), x -> x.lay(0, 1, 1), x -> x.lay(1, 1, 0), x -> x.read(0, 1, 0, 1),
            x -> x.read(0, 1, 9, 1));
        for (int n = 0; n < changes.size(); n++) {
            AsleepPass x = ample();
            changes.get(n).accept(x);
            Check.dueTrue("change " + n + " is seen", !allOf(x).equals(allOf(ample())));
        }
    }

    private static List<Method> face() {
        List<Method> face = new ArrayList<>();
        for (Method method : AsleepPass.class.getDeclaredMethods()) {
            if (Modifier.isPublic(method.getModifiers())) {
                face.add(method);
            }
        }
        face.sort(Comparator.comparing(Method::getName));
        return face;
    }

    private static Object number(Method method, int p, int value) {
        return method.getParameterTypes()[p] == long.class ? (Object) Long.valueOf(value) : (Object) Integer.valueOf(value);
    }

    private static long call(AsleepPass x, Method method, Object... values) {
        try {
            return ((Number) method.invoke(x, values)).longValue();
        } catch (ReflectiveOperationException thrown) {
            Check.dueTrue(method.getName() + Arrays.toString(values) + " threw " + thrown.getCause(), false);
            return 0;
        }
    }

    /** Numbers of a call: one is extreme, the others are such as are there. */
    private static Object[] numbers(Method method, int at, int extreme, int other) {
        Object[] values = new Object[method.getParameterCount()];
        for (int p = 0; p < values.length; p++) {
            values[p] = number(method, p, p == at ? extreme : other);
        }
        return values;
    }

    /** Refused calls answer -1 to -4, -10 less a FAULT, -20 less which one. */
    private static void refusals(boolean whenFull) {
        for (Method method : face()) {
            for (int at = 0; at < method.getParameterCount(); at++) {
                AsleepPass x = whenFull ? full() : ample();
                int refused = 0;
                for (int extreme : EXTREMES) {
                    for (int other = 0; other < 2; other++) {
                        Object[] values = numbers(method, at, extreme, other);
                        // What would not be refused is tried on another one, so that this one stays.
                        AsleepPass trial = whenFull ? full() : ample();
                        if (call(trial, method, values) < 0) {
                            call(x, method, values);
                            refused++;
                        }
                    }
                }
                AsleepPass twin = whenFull ? full() : ample();
                String what = refused + " refused calls of " + method.getName() + " by number " + at;
                Check.dueTrue(what + " change nothing", allOf(x).equals(allOf(twin)));
            }
        }
    }

    static void termsWhatIsRefusedChangesNothing() {
        refusals(false);
    }

    static void termsWhatIsRefusedWhenFullChangesNothing() {
        refusals(true);
    }

    static void termsWhatIsRefusedLeavesOutTheTapeAlone() {
        AsleepPass x = ample();
        AsleepPass twin = ample();
        // "start 7" without its end.
        Check.due("text()", x.text(), -17);
        Check.due("the FAULT is of this text", x.fault(), 2);
        Check.due("THE TAPE is empty then", x.count(3), 0);
        twin.end(0);
        Check.dueTrue("all else stays", allButFault(x).equals(allButFault(twin)));
    }

    static void termsWhatIsAskedChangesNothing() {
        for (Method method : face()) {
            if (!CHANGING.contains(method.getName())) {
                AsleepPass x = ample();
                for (int other = 0; other < 3; other++) {
                    call(x, method, numbers(method, 0, 0, other));
                    call(x, method, numbers(method, -1, 0, other));
                }
                Check.dueTrue(method.getName() + " changes nothing", allOf(x).equals(allOf(ample())));
            }
        }
    }

    static void termsNothingIsThrownByExtremes() {
        for (Method method : face()) {
            for (AsleepPass x : new AsleepPass[] {new AsleepPass(), ample(), full(), Check.told("bearer paid 0 0;")}) {
                int many = method.getParameterCount();
                int turns = (int) Math.pow(EXTREMES.length, Math.min(2, many));
                for (int turn = 0; turn < turns; turn++) {
                    Object[] values = new Object[many];
                    for (int p = 0; p < many; p++) {
                        int which = p % 2 == 0 ? turn % EXTREMES.length : turn / EXTREMES.length;
                        values[p] = number(method, p, EXTREMES[which]);
                    }
                    long answer = call(x, method, values);
                    Check.dueTrue(method.getName() + Arrays.toString(values) + " answered " + answer, answer >= -330);
                }
            }
        }
    }

    static void termsNothingIsThrownByAnyTwoExtremes() {
        AsleepPass x = ample();
        for (Method method : face()) {
            int many = method.getParameterCount();
            for (int p = 0; p < many; p++) {
                for (int q = p + 1; q < many; q++) {
                    for (int one : EXTREMES) {
                        for (int two : EXTREMES) {
                            Object[] values = numbers(method, p, one, 0);
                            values[q] = number(method, q, two);
                            long answer = call(x, method, values);
                            Check.dueTrue(method.getName() + Arrays.toString(values), answer >= -330);
                        }
                    }
                }
            }
        }
    }

    static void termsTheFirstThatFits() {
        AsleepPass x = Check.told("stretch 9 9;bearer plain 0 0;");
        Check.due("BAD ahead of STATE: without", x.without(0, 9), -1);
        Check.due("STATE: without", x.without(0, 0), -2);
        Check.due("BAD ahead of STATE: back", x.back(2), -1);
        Check.due("STATE: back", x.back(1), -2);
        Check.due("BAD ahead of STATE: drop", new AsleepPass().drop(9), -1);
        Check.due("STATE: drop", new AsleepPass().drop(0), -2);
        Check.due("BAD ahead of NONE: swap", x.swap(9), -1);
        Check.due("NONE: swap", x.swap(0), -4);
        Check.due("BAD ahead of NONE: steps", learntInVain().steps(0, 9), -1);
        Check.due("NONE: steps", learntInVain().steps(0, 1), -4);
        Check.due("BAD ahead of FULL: learn", full().learn(0, 0, 0, 21), -1);
        Check.due("FULL: learn", full().learn(0, 0, 0, 20), -3);
        Check.due("BAD ahead of FULL: mark", full().mark(0, 10), -1);
        Check.due("FULL: mark", full().mark(0, 9), -3);
    }

    private static AsleepPass learntInVain() {
        AsleepPass x = Check.told("stretch 9 9;bearer plain 0 0;");
        x.learn(0, 0, 0, 1);
        return x;
    }

    static void termsTheLastOf512Calls() {
        AsleepPass x = new AsleepPass();
        StringBuilder text = new StringBuilder("start 9;");
        for (int i = 0; i < 10; i++) {
            text.append("stretch").append(9 - i % 3).append(' ').append(9 - i % 4).append(';');
        }
        text.append("bearer plain1 2;bearer hummer3 4;bearer trembler5 6;bearer tall7 8;bearer twin9 0;bearer paid0 1;");
        Check.lay(x, text.toString());
        int calls = (text.length() + 7) / 8 + 1;
        Check.due("text()", x.text(), 17);
        calls++;
        long quiet = x.quiet(4, 0);
        long best = x.best(1);
        calls += 2;
        while (calls < 510) {
            x.quiet(4, calls % 3);
            calls++;
        }
        Check.due("call 511", x.quiet(4, 0), quiet);
        Check.due("call 512", x.best(1), best);
    }
}
