import java.nio.charset.StandardCharsets;

/** Counts wrong answers; feeds texts. */
final class Check {
    private static int wrong = 0;
    private static int asked = 0;
    private static String during = "";

    private Check() {
    }

    /** What is tested from here on, told ahead of each wrong answer. */
    static void during(String what) {
        during = what + ": ";
    }

    /** How many answers were looked at. */
    static int asked() {
        return asked;
    }

    static void due(String call, long got, long want) {
        asked++;
        if (got != want) {
            wrong++;
            if (wrong <= 40) {
                System.out.println(during + call + " answered " + got + ", due is " + want);
            }
        }
    }

    static void dueTrue(String what, boolean holds) {
        due(what, holds ? 1 : 0, 1);
    }

    /** Ends the program with 1, if there was a wrong answer. */
    static void finish() {
        System.out.println(wrong == 0 ? "all answers are as due" : wrong + " answers are not as due");
        if (wrong != 0) {
            System.exit(1);
        }
    }

    /** Lays a text on an empty TAPE. */
    static void lay(AsleepPass x, String text) {
        byte[] bytes = text.getBytes(StandardCharsets.ISO_8859_1);
        for (int at = 0; at < bytes.length; at += 8) {
            long v = 0;
            for (int p = at; p < at + 8; p++) {
                v = v << 8 | (p < bytes.length ? bytes[p] & 255 : ' ');
            }
            x.feed(v);
        }
        x.end(bytes.length);
    }

    /** A new object that was told a text which must be taken. */
    static AsleepPass told(String text) {
        AsleepPass x = new AsleepPass();
        tell(x, text);
        return x;
    }

    static void tell(AsleepPass x, String text) {
        lay(x, text);
        int lines = 0;
        for (char sign : text.toCharArray()) {
            lines += sign == ';' ? 1 : 0;
        }
        due("text() of " + text, x.text(), lines);
        due("fault() of " + text, x.fault(), 0);
    }

    /** A text that must be refused, by a FAULT at a place. */
    static void refused(AsleepPass x, String text, int fault, int place) {
        lay(x, text);
        due("text() of " + text, x.text(), -10 - place);
        due("fault() of " + text, x.fault(), fault);
        due("count(3) behind " + text, x.count(3), 0);
    }

    static void fraction(String call, long above, long below, long wantAbove, long wantBelow) {
        due(call + ", above", above, wantAbove);
        due(call + ", below", below, wantBelow);
    }

    /** All that can be asked of what there is and how many; the FAULT of the text stands last. */
    static String state(AsleepPass x) {
        return stateButFault(x) + " " + x.fault();
    }

    static String stateButFault(AsleepPass x) {
        StringBuilder all = new StringBuilder();
        for (int what = 0; what < 3; what++) {
            all.append(x.rule(what)).append(' ');
        }
        for (int i = 0; i < 10; i++) {
            for (int what = 0; what < 3; what++) {
                all.append(x.stretch(i, what)).append(' ').append(x.bearer(i, what)).append(' ');
            }
        }
        for (int what = 0; what < 6; what++) {
            all.append(x.count(what)).append(' ');
        }
        return all.append(x.torn()).toString();
    }
}
