/** Edges of promises 1 to 8: a new object, feed, end, text, fault, rule, stretch, bearer. */
final class TextEdges {
    private static final int BAD = AsleepPass.BAD;
    private static final int NONE = AsleepPass.NONE;
    private static final int STATE = AsleepPass.STATE;
    private static final int FULL = AsleepPass.FULL;
    private static final int[] NO_PART = {-1, 3, 4, 10, NONE, Integer.MAX_VALUE, Integer.MIN_VALUE};

    private TextEdges() {
    }

    /** Eight signs as feed() takes them. */
    private static long eight(String signs) {
        long v = 0;
        for (int p = 0; p < 8; p++) {
            v = v << 8 | signs.charAt(p);
        }
        return v;
    }

    private static AsleepPass filled(int bytes) {
        AsleepPass x = new AsleepPass();
        for (int n = 0; n < bytes; n += 8) {
            x.feed(eight("        "));
        }
        x.end(bytes);
        return x;
    }

    // ---- 1: a new object

    static void p01NoStretches() {
        AsleepPass x = new AsleepPass();
        Check.due("rule(0)", x.rule(0), 0);
        for (int what = 0; what < 3; what++) {
            Check.due("stretch(0, " + what + ")", x.stretch(0, what), BAD);
        }
    }

    static void p01NoBearers() {
        AsleepPass x = new AsleepPass();
        Check.due("rule(1)", x.rule(1), 0);
        for (int what = 0; what < 3; what++) {
            Check.due("bearer(0, " + what + ")", x.bearer(0, what), BAD);
        }
    }

    static void p01StartIsFive() {
        Check.due("rule(2)", new AsleepPass().rule(2), 5);
    }

    static void p01SheetsHaveNothing() {
        AsleepPass x = new AsleepPass();
        Check.due("count(4)", x.count(4), NONE);
        for (int k = 0; k < 4; k++) {
            Check.due("lay(" + k + ", 0, 0)", x.lay(k, 0, 0), -11);
            for (int lane = 0; lane < 3; lane++) {
                Check.due("read(" + k + ", " + lane + ", 0, 1)", x.read(k, lane, 0, 1), 0);
                Check.due("torn()", x.torn(), 1);
            }
        }
    }

    static void p01NothingElse() {
        AsleepPass x = new AsleepPass();
        Check.due("LEARNT", x.count(0), 0);
        Check.due("MARKED", x.count(1), 0);
        Check.due("IMAGES", x.count(2), 0);
        Check.due("bytes", x.count(3), 0);
        Check.due("hand overs", x.count(5), 0);
        Check.due("fault()", x.fault(), 0);
        Check.due("torn()", x.torn(), 0);
    }

    static void p01TwoObjectsShareNothing() {
        AsleepPass x = new AsleepPass();
        AsleepPass y = new AsleepPass();
        x.feed(eight("start 9;"));
        Check.due("text() of the other one", y.text(), 0);
        x.text();
        x.sheet(0, 0, 3);
        x.keep(0);
        Check.due("rule(2) of the other one", y.rule(2), 5);
        Check.due("count(2) of the other one", y.count(2), 0);
        Check.due("count(4) of the other one", y.count(4), NONE);
    }

    // ---- 2: feed

    static void p02HowManyItHas() {
        AsleepPass x = new AsleepPass();
        for (int n = 1; n <= 40; n++) {
            Check.due("feed " + n, x.feed(n), 8 * n);
            Check.due("count(3)", x.count(3), 8 * n);
        }
    }

    static void p02TheHighestFirst() {
        AsleepPass x = new AsleepPass();
        x.feed(eight("start 7;"));
        Check.due("text()", x.text(), 1);
        Check.due("rule(2)", x.rule(2), 7);
        x.feed(eight("?;;;;;;;"));
        Check.due("the highest is at place 0", x.text(), -10);
        Check.due("and no TOKEN", x.fault(), 1);
        x.feed(eight("       ?"));
        Check.due("the lowest is at place 7", x.text(), -17);
    }

    static void p02BytesOfTheSign() {
        AsleepPass x = new AsleepPass();
        Check.due("feed(-1)", x.feed(-1L), 8);
        Check.due("255 is no TOKEN", x.text(), -10);
        Check.due("fault()", x.fault(), 1);
        // 's' and the high bit: no letter.
        x.feed(eight("start 7;") | 1L << 63);
        Check.due("a byte above 127 is no letter", x.text(), -10);
        Check.due("fault()", x.fault(), 1);
    }

    static void p02BehindWhatWasCut() {
        AsleepPass x = new AsleepPass();
        x.feed(eight("start 78"));
        x.end(7);
        Check.due("feed", x.feed(eight(";       ")), 15);
        Check.due("text()", x.text(), 1);
        Check.due("rule(2)", x.rule(2), 7);
    }

    static void p02ExactlyFull() {
        AsleepPass x = filled(312);
        Check.due("feed up to 320", x.feed(eight("start 3;")), 320);
        Check.due("text()", x.text(), 1);
        Check.due("rule(2)", x.rule(2), 3);
    }

    static void p02FullMoreThan320() {
        for (int bytes = 313; bytes <= 320; bytes++) {
            AsleepPass x = filled(bytes);
            Check.due("feed behind " + bytes, x.feed(0), FULL);
            Check.due("count(3)", x.count(3), bytes);
        }
    }

    static void p02FullChangesNothing() {
        AsleepPass x = filled(312);
        x.feed(eight("start 3;"));
        x.end(319);
        x.feed(eight("????????"));
        x.end(319);
        Check.due("no byte came", x.text(), -10 - 319);
        Check.due("it is the end that is missing", x.fault(), 2);
    }

    static void p02AgainBehindAText() {
        AsleepPass x = filled(320);
        x.text();
        Check.due("feed on THE TAPE that is empty then", x.feed(0), 8);
    }

    // ---- 3: end

    static void p03KeepsTheFirst() {
        AsleepPass x = new AsleepPass();
        x.feed(eight("start 8;"));
        x.feed(eight("rubbish?"));
        Check.due("end(8)", x.end(8), 16);
        Check.due("count(3)", x.count(3), 8);
        Check.due("text()", x.text(), 1);
        Check.due("rule(2)", x.rule(2), 8);
    }

    static void p03KeepsNone() {
        AsleepPass x = filled(24);
        Check.due("end(0)", x.end(0), 24);
        Check.due("count(3)", x.count(3), 0);
        Check.due("end(0) of none", x.end(0), 0);
    }

    static void p03KeepsAll() {
        AsleepPass x = filled(320);
        Check.due("end(320)", x.end(320), 320);
        Check.due("end(319)", x.end(319), 320);
        Check.due("end(319)", x.end(319), 319);
    }

    static void p03BadBelowZero() {
        AsleepPass x = filled(16);
        for (int n : new int[] {-1, -8, NONE, Integer.MIN_VALUE}) {
            Check.due("end(" + n + ")", x.end(n), BAD);
            Check.due("count(3)", x.count(3), 16);
        }
        Check.due("end(-1) of none", new AsleepPass().end(-1), BAD);
    }

    static void p03BadAboveWhatItHas() {
        AsleepPass x = filled(16);
        for (int n : new int[] {17, 24, 320, 321, Integer.MAX_VALUE}) {
            Check.due("end(" + n + ")", x.end(n), BAD);
            Check.due("count(3)", x.count(3), 16);
        }
        Check.due("end(1) of none", new AsleepPass().end(1), BAD);
        Check.due("end(321) of 320", filled(320).end(321), BAD);
    }

    static void p03WhatWasCutIsGone() {
        AsleepPass x = new AsleepPass();
        x.feed(eight("start 8;"));
        x.end(5);
        Check.due("end(8)", x.end(8), BAD);
        Check.due("text()", x.text(), -15);
        Check.due("the end is missing", x.fault(), 2);
    }

    // ---- 4: text

    static void p04OfNothing() {
        AsleepPass x = Check.told("start 8;stretch 1 1;bearer tall 1 1;");
        Check.due("text()", x.text(), 0);
        Check.due("rule(0)", x.rule(0), 0);
        Check.due("rule(1)", x.rule(1), 0);
        Check.due("rule(2)", x.rule(2), 5);
        Check.due("fault()", x.fault(), 0);
    }

    static void p04OfBlanksAlone() {
        Check.due("1 blank", filledAndTold(1), 0);
        Check.due("320 blanks", filledAndTold(320), 0);
    }

    private static int filledAndTold(int bytes) {
        return filled(bytes).text();
    }

    static void p04HowManyLines() {
        AsleepPass x = new AsleepPass();
        String most = "start9;" + "stretch9 9;".repeat(10) + "bearer paid9 9;".repeat(6);
        StringBuilder carries = new StringBuilder();
        for (int i = 0; i < 10; i++) {
            carries.append("carry").append(i).append(" 5;");
        }
        Check.lay(x, most + carries);
        Check.due("text() of all that can be told", x.text(), 27);
        Check.due("rule(0)", x.rule(0), 10);
        Check.due("rule(1)", x.rule(1), 6);
        Check.due("stretch(9, 2)", x.stretch(9, 2), 5);
        Check.lay(x, "start 1;");
        Check.due("text() of one", x.text(), 1);
    }

    static void p04TheTapeIsEmptyThen() {
        AsleepPass x = new AsleepPass();
        x.feed(eight("start 2;"));
        x.text();
        Check.due("count(3), taken", x.count(3), 0);
        x.feed(eight("start 2?"));
        x.text();
        Check.due("count(3), refused", x.count(3), 0);
        Check.due("end(1)", x.end(1), BAD);
        Check.due("text() of nothing", x.text(), 0);
    }

    static void p04TheFirstPlaceIsZero() {
        AsleepPass x = new AsleepPass();
        Check.lay(x, "!");
        Check.due("text()", x.text(), -10);
    }

    static void p04TheLastPlaceIs319() {
        AsleepPass x = filled(312);
        x.feed(eight("start 3!"));
        Check.due("text()", x.text(), -329);
        Check.due("fault()", x.fault(), 1);
    }

    static void p04TheLengthIs320() {
        AsleepPass x = filled(312);
        x.feed(eight("start  3"));
        Check.due("text()", x.text(), -330);
        Check.due("fault()", x.fault(), 2);
    }

    static void p04WhatWasToldStays() {
        AsleepPass x = Check.told("start 8;stretch 1 2;stretch 3 4;bearer tall 5 6;bearer twin 7 8;carry 1 1;");
        x.learn(0, 0, 1, 3);
        x.mark(1, 8);
        x.keep(0);
        x.sheet(0, 1, 4);
        String was = Check.stateButFault(x);
        String[] refused = {"start 1;stretch 9 9;bearer paid 9 9;carry 0 0;?", "stretch 9 9;", "start 2;start 3;",
            "bearer plain 0 0;stretch 0 0;carry 1 0;", "start 1;start"};
        for (String text : refused) {
            Check.lay(x, text);
            Check.dueTrue("text() is refused: " + text, x.text() <= -10);
            Check.dueTrue("all stays behind " + text, was.equals(Check.stateButFault(x)));
        }
    }

    static void p04ItTellsAllInPlaceOfWhatThereWas() {
        AsleepPass x = Check.told("start 8;stretch 1 2;stretch 3 4;bearer tall 5 6;bearer twin 7 8;carry 0 1;carry 1 1;");
        Check.tell(x, "stretch 9 8;bearer plain 2 1;");
        Check.due("rule(0)", x.rule(0), 1);
        Check.due("rule(1)", x.rule(1), 1);
        Check.due("START is 5 again", x.rule(2), 5);
        Check.due("NOISE", x.stretch(0, 0), 9);
        Check.due("COLD", x.stretch(0, 1), 8);
        Check.due("BEARER 0 again", x.stretch(0, 2), 0);
        Check.due("KIND", x.bearer(0, 0), 0);
        Check.due("stretch(1, 0)", x.stretch(1, 0), BAD);
        Check.due("bearer(1, 0)", x.bearer(1, 0), BAD);
    }

    static void p04NothingIsLearntThen() {
        AsleepPass x = Check.told("stretch 1 2;bearer tall 5 6;");
        for (int n = 0; n < 8; n++) {
            x.learn(0, 0, 0, 20);
        }
        Check.tell(x, "stretch 1 2;bearer tall 5 6;");
        Check.due("count(0)", x.count(0), 0);
        Check.due("steps(0, 0)", x.steps(0, 0), 10);
        Check.due("learn", x.learn(0, 0, 0, 20), 1);
    }

    static void p04NothingIsMarkedThen() {
        AsleepPass x = Check.told("stretch 1 2;bearer tall 5 6;");
        for (int n = 0; n < 6; n++) {
            x.mark(0, 0);
        }
        Check.tell(x, "stretch 1 0;bearer plain 5 6;");
        Check.due("count(1)", x.count(1), 0);
        Check.due("paths()", x.paths(), 2);
        Check.due("mark", x.mark(0, 0), 1);
    }

    static void p04ImagesAreGoneThen() {
        AsleepPass x = Check.told("stretch 1 2;bearer tall 5 6;");
        x.keep(0);
        x.keep(1);
        Check.tell(x, "");
        Check.due("count(2)", x.count(2), 0);
        Check.due("back(0)", x.back(0), STATE);
        Check.due("back(1)", x.back(1), STATE);
        Check.due("keep(0)", x.keep(0), 0);
        Check.due("keep(1)", x.keep(1), 0);
    }

    static void p04SheetsStayThen() {
        AsleepPass x = Check.told("stretch 1 2;stretch 1 2;bearer tall 5 6;");
        x.sheet(0, 1, 2);
        x.lay(0, 0, 1);
        x.lay(0, 1, 1);
        x.read(0, 0, 0, 1);
        Check.tell(x, "stretch 1 2;stretch 1 2;bearer tall 5 6;bearer tall 5 6;");
        Check.due("torn()", x.torn(), 3);
        Check.due("count(4)", x.count(4), 2);
        Check.due("read(0, 1, 0, 1)", x.read(0, 1, 0, 1), 1);
        Check.due("stretch(1, 2)", x.stretch(1, 2), 1);
    }

    // ---- 5: fault

    static void p05ZeroAtFirst() {
        Check.due("fault()", new AsleepPass().fault(), 0);
    }

    static void p05OfTheLatest() {
        AsleepPass x = new AsleepPass();
        String[] texts = {"?", ";", "start 0;", "start 1;start 1;", "stretch0 0;".repeat(11), "carry 0 0;", "stretch 0 0;"};
        for (int n = 0; n < texts.length; n++) {
            Check.lay(x, texts[n]);
            x.text();
            Check.due("fault() of " + texts[n], x.fault(), n + 1);
            Check.due("fault() again", x.fault(), n + 1);
        }
    }

    static void p05ZeroAgain() {
        AsleepPass x = new AsleepPass();
        Check.lay(x, "?");
        x.text();
        Check.due("fault()", x.fault(), 1);
        x.text();
        Check.due("fault() of a text that was taken", x.fault(), 0);
    }

    static void p05NoOtherCallChangesIt() {
        AsleepPass x = new AsleepPass();
        Check.lay(x, "start 0;");
        x.text();
        x.feed(0);
        x.end(99);
        x.end(0);
        x.start(77);
        x.read(0, 0, 0, 1);
        x.keep(0);
        x.back(0);
        Check.due("fault()", x.fault(), 3);
    }

    // ---- 6: rule

    static void p06AtMost() {
        AsleepPass x = Check.told("start 9;" + "stretch0 0;".repeat(10) + "bearer plain0 0;".repeat(6));
        Check.due("rule(0)", x.rule(0), 10);
        Check.due("rule(1)", x.rule(1), 6);
        Check.due("rule(2)", x.rule(2), 9);
    }

    static void p06Bad() {
        AsleepPass x = Check.told("stretch 0 0;bearer plain 0 0;");
        for (int what : NO_PART) {
            Check.due("rule(" + what + ")", x.rule(what), BAD);
        }
    }

    // ---- 7: stretch

    static void p07FirstAndLast() {
        AsleepPass x = Check.told("stretch 0 9;stretch 9 0;bearer plain 0 0;bearer plain 0 0;carry 1 1;");
        Check.due("stretch(0, 0)", x.stretch(0, 0), 0);
        Check.due("stretch(0, 1)", x.stretch(0, 1), 9);
        Check.due("stretch(0, 2), if none is told", x.stretch(0, 2), 0);
        Check.due("stretch(1, 0)", x.stretch(1, 0), 9);
        Check.due("stretch(1, 1)", x.stretch(1, 1), 0);
        Check.due("stretch(1, 2)", x.stretch(1, 2), 1);
    }

    static void p07BadStretch() {
        AsleepPass x = Check.told("stretch 0 9;stretch 9 0;bearer plain 0 0;bearer plain 0 0;bearer plain 0 0;");
        for (int i : new int[] {-1, 2, 3, 9, 10, 11, NONE, Integer.MAX_VALUE, Integer.MIN_VALUE}) {
            for (int what = 0; what < 3; what++) {
                Check.due("stretch(" + i + ", " + what + ")", x.stretch(i, what), BAD);
            }
        }
        AsleepPass all = Check.told("stretch0 0;".repeat(10) + "bearer plain0 0;");
        Check.due("stretch(9, 0)", all.stretch(9, 0), 0);
        Check.due("stretch(10, 0)", all.stretch(10, 0), BAD);
    }

    static void p07BadWhat() {
        AsleepPass x = Check.told("stretch 0 9;bearer plain 0 0;");
        for (int what : NO_PART) {
            Check.due("stretch(0, " + what + ")", x.stretch(0, what), BAD);
        }
    }

    // ---- 8: bearer

    static void p08FirstAndLast() {
        AsleepPass x = Check.told("bearer plain 0 9;bearer paid 9 0;");
        Check.due("bearer(0, 0)", x.bearer(0, 0), 0);
        Check.due("bearer(0, 1)", x.bearer(0, 1), 0);
        Check.due("bearer(0, 2)", x.bearer(0, 2), 9);
        Check.due("bearer(1, 0)", x.bearer(1, 0), 5);
        Check.due("bearer(1, 1)", x.bearer(1, 1), 9);
        Check.due("bearer(1, 2)", x.bearer(1, 2), 0);
    }

    static void p08AllKinds() {
        AsleepPass x = Check.told("bearer plain 0 0;bearer hummer 0 0;bearer trembler 0 0;bearer tall 0 0;"
            + "bearer twin 0 0;bearer paid 0 0;");
        for (int b = 0; b < 6; b++) {
            Check.due("bearer(" + b + ", 0)", x.bearer(b, 0), b);
        }
    }

    static void p08BadBearer() {
        AsleepPass x = Check.told("stretch 0 0;stretch 0 0;stretch 0 0;bearer plain 0 9;bearer paid 9 0;");
        for (int b : new int[] {-1, 2, 5, 6, 7, NONE, Integer.MAX_VALUE, Integer.MIN_VALUE}) {
            for (int what = 0; what < 3; what++) {
                Check.due("bearer(" + b + ", " + what + ")", x.bearer(b, what), BAD);
            }
        }
        AsleepPass all = Check.told("bearer plain0 0;".repeat(6));
        Check.due("bearer(5, 0)", all.bearer(5, 0), 0);
        Check.due("bearer(6, 0)", all.bearer(6, 0), BAD);
    }

    static void p08BadWhat() {
        AsleepPass x = Check.told("bearer plain 0 9;");
        for (int what : NO_PART) {
            Check.due("bearer(0, " + what + ")", x.bearer(0, what), BAD);
        }
    }
}
