import java.lang.reflect.Method;
import java.util.ArrayList;
import java.util.Arrays;
import java.util.Comparator;
import java.util.List;
import java.util.Random;

/** Random runs of 512 calls, every answer held against the Model's; the numbers come from fixed seeds. */
public final class ModelTest {
    private static final int RUNS = 300;
    private static final String[] KINDS = {"plain", "hummer", "trembler", "tall", "twin", "paid"};
    private static final String[] SCRAPS = {"start 5;", "start", "stretch", "bearer", "carry", "plain", "9", "10", "100",
        "0", ";", " ", "?", "carry 0 0;", "stretch 1 1;", "bearer twin 3 3;", "A", "\u00e9", "tal", "\0"};

    private final Random random;
    private final AsleepPass x = new AsleepPass();
    private final Model model = new Model();
    private final List<String> calls = new ArrayList<>();
    private int stretches;
    private int bearers;

    private ModelTest(long seed) {
        random = new Random(seed);
    }

    public static void main(String[] args) throws ReflectiveOperationException {
        List<Method> face = new ArrayList<>();
        for (Method method : AsleepPass.class.getDeclaredMethods()) {
            if (java.lang.reflect.Modifier.isPublic(method.getModifiers())) {
                face.add(method);
            }
        }
        face.sort(Comparator.comparing(Method::getName));
        for (int seed = 0; seed < RUNS; seed++) {
            new ModelTest(seed).run(face);
        }
        Check.finish();
    }

    private void run(List<Method> face) throws ReflectiveOperationException {
        while (calls.size() < 512) {
            int die = random.nextInt(150);
            if (die == 0 || calls.isEmpty() && random.nextInt(10) > 0) {
                tell(random.nextInt(3) > 0 ? goodText() : random.nextInt(3) > 0 ? spoilt(goodText()) : scraps());
            } else {
                Method method = face.get(random.nextInt(face.size()));
                Object[] values = new Object[method.getParameterCount()];
                for (int p = 0; p < values.length; p++) {
                    values[p] = method.getName().equals("feed") ? (Object) random.nextLong() : (Object) number(method, p);
                }
                if (method.getName().equals("learn") && random.nextBoolean()) {
                    int harm = model.harm((Integer) values[0], (Integer) values[1], (Integer) values[2]);
                    values[3] = harm < 0 ? values[3] : (Integer) harm;
                }
                if (method.getName().equals("mark") && random.nextBoolean()) {
                    values = new Object[] {stretches - 1, model.carry(random.nextInt(), 0)};
                }
                if (!isRare(method) || random.nextInt(method.getName().equals("text") ? 80 : 8) == 0) {
                    both(method, values);
                }
            }
        }
    }

    /** THE TAPE alone is mostly rubbish, and an empty one tells that there is nothing. */
    private static boolean isRare(Method method) {
        return Arrays.asList("feed", "text", "end", "wipe", "forget", "back").contains(method.getName());
    }

    /**
     * What the numbers of a call stand for: i a STRETCH, b a BEARER, a one or nobody, d a DEPTH or a figure, f one part
     * of a fraction, w one of three, n how many, k a SHEET, l a lane, c a CELL, s a size, v what is laid, z a seed, h HARM.
     */
    private static String meaning(String name) {
        switch (name) {
            case "stretch": return "iw";
            case "bearer": case "steps": return "bw";
            case "noise": case "cold": case "mark": return "id";
            case "step": case "warm": return "bd";
            case "put": return "ib";
            case "harm": return "iab";
            case "awake": return "if";
            case "depth": return "idf";
            case "next": return "iad";
            case "without": return "bf";
            case "quiet": return "nw";
            case "rule": case "drop": case "swap": return "w";
            case "carry": return "zw";
            case "learn": return "iabh";
            case "sheet": return "kls";
            case "lay": return "kcv";
            case "read": return "klcn";
            case "wakes": case "best": case "sure": case "keep": case "back": return "f";
            case "start": case "eye": return "d";
            default: return "n";
        }
    }

    private Integer number(Method method, int p) {
        int die = random.nextInt(60);
        if (die == 0) {
            return random.nextInt();
        }
        if (die == 1) {
            int[] edges = {-1, -2, -3, -4, -5, 10, 11, 20, 21, 40, 41, Integer.MAX_VALUE, Integer.MIN_VALUE};
            return edges[random.nextInt(edges.length)];
        }
        switch (meaning(method.getName()).charAt(p)) {
            case 'i': return random.nextInt(stretches + (stretches == 0 || random.nextInt(20) == 0 ? 1 : 0));
            case 'b': return random.nextInt(bearers + (bearers == 0 || random.nextInt(20) == 0 ? 1 : 0));
            case 'a': return random.nextInt(3) == 0 ? AsleepPass.NONE : random.nextInt(bearers + 1);
            case 'd': return random.nextInt(random.nextBoolean() ? 4 : 10);
            case 'f': return random.nextInt(2);
            case 'w': return random.nextInt(3);
            case 'k': return random.nextInt(random.nextBoolean() ? 1 : 4);
            case 'l': return random.nextInt(random.nextBoolean() ? 1 : 3);
            case 'c': return random.nextInt(random.nextBoolean() ? 8 : 42) - 1;
            case 's': return random.nextInt(random.nextBoolean() ? 8 : 43) - 1;
            case 'v': return laid();
            case 'z': return random.nextInt();
            case 'h': return random.nextInt(21);
            default: return random.nextInt(random.nextInt(4) > 0 ? 5 : 22);
        }
    }

    private int laid() {
        int small = random.nextInt(Math.max(1, random.nextInt(4) > 0 ? Math.min(stretches, bearers) : stretches));
        int die = random.nextInt(12);
        return die == 0 ? small + 256 : die == 1 ? small + 65536 : die == 2 ? random.nextInt(12) - 1 : small;
    }

    private void both(Method method, Object... values) throws ReflectiveOperationException {
        Method other = Model.class.getDeclaredMethod(method.getName(), method.getParameterTypes());
        String call = method.getName() + Arrays.toString(values);
        calls.add(call);
        long got = ((Number) method.invoke(x, values)).longValue();
        long want = ((Number) other.invoke(model, values)).longValue();
        if (got != want) {
            System.out.println("the run was " + calls);
        }
        Check.due(call, got, want);
        if (method.getName().equals("text")) {
            stretches = model.rule(0);
            bearers = model.rule(1);
        }
    }

    private void tell(String text) throws ReflectiveOperationException {
        Method feed = AsleepPass.class.getDeclaredMethod("feed", long.class);
        Method end = AsleepPass.class.getDeclaredMethod("end", int.class);
        both(end, 0);
        String whole = text.length() > 320 ? text.substring(0, 320) : text;
        for (int at = 0; at < whole.length(); at += 8) {
            long v = 0;
            for (int p = at; p < at + 8; p++) {
                v = v << 8 | (p < whole.length() ? whole.charAt(p) : 0);
            }
            both(feed, v);
        }
        both(end, whole.length());
        both(AsleepPass.class.getDeclaredMethod("text"));
        both(AsleepPass.class.getDeclaredMethod("fault"));
    }

    private String goodText() {
        List<String> lines = new ArrayList<>();
        int many = random.nextInt(10) == 0 ? 0 : 1 + random.nextInt(10);
        int by = many == 0 ? random.nextInt(7) : 1 + random.nextInt(random.nextInt(3) == 0 ? 1 : 6);
        int noisy = 1 + random.nextInt(10);
        int cold = 1 + random.nextInt(10);
        if (random.nextInt(4) > 0) {
            lines.add("start " + (1 + random.nextInt(random.nextBoolean() ? 3 : 9)) + ";");
        }
        for (int i = 0; i < many; i++) {
            lines.add("stretch " + random.nextInt(noisy) + " " + random.nextInt(cold) + ";");
        }
        for (int b = 0; b < by; b++) {
            lines.add("bearer " + KINDS[random.nextInt(6)] + " " + random.nextInt(10) + (random.nextBoolean() ? " " : "  ")
                + random.nextInt(10) + ";");
        }
        java.util.Collections.shuffle(lines, random);
        int room = 320 - String.join("", lines).length();
        for (int i = 0; i < many && room >= 10; i++) {
            if (random.nextInt(4) > 0) {
                lines.add(random.nextInt(lines.size() + 1), "carry " + i + " " + random.nextInt(by) + ";");
                room -= 10;
            }
        }
        return String.join("", lines);
    }

    private String spoilt(String text) {
        int at = random.nextInt(text.length() + 1);
        int past = Math.min(text.length(), at + random.nextInt(3));
        String scrap = random.nextInt(4) == 0 ? "" : SCRAPS[random.nextInt(SCRAPS.length)];
        return text.substring(0, at) + scrap + text.substring(past);
    }

    private String scraps() {
        StringBuilder all = new StringBuilder();
        for (int n = random.nextInt(12); n > 0; n--) {
            all.append(SCRAPS[random.nextInt(SCRAPS.length)]).append(random.nextBoolean() ? " " : "");
        }
        return all.toString();
    }
}
