/** Edges of the text's terms (promises 4 and 5): TOKENS, bounds, the seven FAULTS and their places. */
final class FaultEdges {
    /** The lines, sign by sign as TOKENS: n is a NUMBER. */
    private static final String[][] LINES = {
        {"start", "1", ";"}, {"stretch", "1", "1", ";"}, {"bearer", "tall", "1", "1", ";"}, {"carry", "1", "1", ";"}
    };
    private static final String TEN_STRETCHES = "stretch0 0;".repeat(10);
    private static final String SIX_BEARERS = "bearer twin0 0;".repeat(6);

    private FaultEdges() {
    }

    private static void refused(String text, int fault, int place) {
        Check.refused(new AsleepPass(), text, fault, place);
    }

    private static boolean isName(String token) {
        return token.charAt(0) >= 'a';
    }

    private static boolean isNumber(String token) {
        return Character.isDigit(token.charAt(0));
    }

    /** The first TOKENS of a line with a blank behind each. */
    private static String ahead(String[] line, int many) {
        StringBuilder text = new StringBuilder();
        for (int t = 0; t < many; t++) {
            text.append(line[t]).append(' ');
        }
        return text.toString();
    }

    // ---- TOKENS

    static void termsTokensAsLongAsMayBe() {
        refused("startstretch 1 1;", 2, 0);
        refused("start 11;", 3, 6);
        AsleepPass x = Check.told("start1;stretch2 3;bearer tall4 5;carry0 0;");
        Check.due("START", x.rule(2), 1);
        Check.due("NOISE", x.stretch(0, 0), 2);
        Check.due("STEP", x.bearer(0, 1), 4);
    }

    static void termsNoBlankIsNeededBetweenOtherTokens() {
        Check.due("stretch(0, 0)", Check.told("bearer tall1 1;stretch1 1;").stretch(0, 0), 1);
        // A figure behind a figure is the same NUMBER, a letter behind a figure is not.
        refused("stretch 1a;", 2, 9);
        refused("bearer tall1a;", 2, 12);
        refused("start1start1;", 2, 6);
    }

    static void termsBlanksBetween() {
        Check.due("rule(2)", Check.told("    start       7     ;    ").rule(2), 7);
    }

    static void termsOnlyBlankIsBlank() {
        for (char sign : new char[] {0, 9, 10, 11, 12, 13, 31, 127, 133, 160}) {
            refused(sign + "start 1;", 1, 0);
            refused("start" + sign + "1;", 1, 5);
            refused("start 1;" + sign, 1, 8);
        }
    }

    static void termsEveryByteThatBeginsNoToken() {
        for (int sign = 0; sign < 256; sign++) {
            boolean begins = sign == ' ' || sign == ';' || sign >= 'a' && sign <= 'z' || sign >= '0' && sign <= '9';
            AsleepPass x = new AsleepPass();
            Check.lay(x, "  " + (char) sign);
            Check.due("text() of byte " + sign, x.text(), sign == ' ' ? 0 : -12);
            Check.due("fault() of byte " + sign, x.fault(), sign == ' ' ? 0 : begins ? 2 : 1);
        }
    }

    static void termsCapitalsAreNoNames() {
        refused("Start 1;", 1, 0);
        refused("starT 1;", 2, 0);
        refused("bearer Tall 1 1;", 1, 7);
    }

    static void termsNumbersOfOneOrTwoFigures() {
        AsleepPass x = Check.told("start 09;stretch 00 01;bearer paid 08 09;carry 00 00;");
        Check.due("START", x.rule(2), 9);
        Check.due("NOISE", x.stretch(0, 0), 0);
        Check.due("COLD", x.stretch(0, 1), 1);
        Check.due("STEP", x.bearer(0, 1), 8);
    }

    static void termsFault1ANumberThatIsTooLong() {
        refused("start 001;", 1, 6);
        refused("start 000;", 1, 6);
        refused("stretch 1 0000000001;", 1, 10);
        refused("bearer tall 999 1;", 1, 12);
        refused("carry 1 100;", 1, 8);
        refused("9".repeat(320), 1, 0);
        // Longer than any int: it is not added up.
        refused("start 99999999999999999999999;", 1, 6);
        refused("   4294967297", 1, 3);
    }

    static void termsFault1AheadOf2WhereANumberIsTooLong() {
        refused("123", 1, 0);
        refused("bearer 123", 1, 7);
        refused("start 1 123", 1, 8);
    }

    // ---- FAULT 2

    static void termsFault2ANameThatBeginsNoLine() {
        for (String name : new String[] {"a", "z", "s", "star", "starts", "tart", "stretc", "stretchs", "beare", "bearers",
            "carr", "carryy", "plain", "hummer", "trembler", "tall", "twin", "paid", "n", "line", "text"}) {
            refused(name + " 1 1;", 2, 0);
            refused("start 1; " + name, 2, 9);
        }
    }

    static void termsFault2ANameThatIsNoK() {
        for (String name : new String[] {"k", "plai", "plains", "hum", "hummers", "trembl", "tremblers", "tal", "talll",
            "twi", "twins", "pai", "paids", "start", "stretch", "bearer", "carry", "lain"}) {
            refused("bearer " + name + " 1 1;", 2, 7);
        }
    }

    static void termsFault2AnotherTokenThanCanStandThere() {
        for (String[] line : LINES) {
            for (int t = 0; t < line.length; t++) {
                String text = ahead(line, t);
                for (String other : new String[] {"x", "1", ";"}) {
                    boolean same = isNumber(other) == isNumber(line[t]) && isName(other) == isName(line[t]);
                    if (!same || isName(other)) {
                        refused(text + other, 2, text.length());
                    }
                }
            }
        }
    }

    static void termsFault2TheEnd() {
        for (String[] line : LINES) {
            for (int t = 1; t < line.length; t++) {
                String text = ahead(line, t);
                refused(text, 2, text.length());
                refused(text.trim(), 2, text.length() - 1);
                refused(text + "    ", 2, text.length() + 4);
                refused("start 2;" + text, line[0].equals("start") ? 4 : 2, line[0].equals("start") ? 8 : text.length() + 8);
            }
        }
    }

    static void termsFault2ASecondStop() {
        refused("start 1;;", 2, 8);
        refused("; start 1;", 2, 0);
    }

    // ---- FAULT 3

    private static void bounds(String ahead, int least, int greatest, String behind) {
        for (int v = 0; v < 100; v++) {
            String text = ahead + v + behind;
            if (v < least || v > greatest) {
                refused(text, 3, ahead.length());
            } else {
                Check.told(text);
            }
        }
    }

    static void termsFault3Start() {
        bounds("start ", 1, 9, ";");
        refused("start 00;", 3, 6);
    }

    static void termsFault3Noise() {
        bounds("bearer plain 0 0; stretch ", 0, 9, " 0;");
    }

    static void termsFault3Cold() {
        bounds("bearer plain 0 0; stretch 0 ", 0, 9, ";");
    }

    static void termsFault3Step() {
        bounds("bearer plain ", 0, 9, " 0;");
    }

    static void termsFault3Warmth() {
        bounds("bearer plain 0 ", 0, 9, ";");
    }

    static void termsFault3CarryAStretch() {
        bounds(TEN_STRETCHES + "bearer plain 0 0; carry ", 0, 9, " 0;");
    }

    static void termsFault3CarryABearer() {
        bounds("stretch 0 0;" + SIX_BEARERS + "carry 0 ", 0, 5, ";");
    }

    // ---- FAULT 4

    static void termsFault4StartForTheSecondTime() {
        refused("start 1;start 1;", 4, 8);
        refused("start 1; bearer tall 1 1;  start 2;", 4, 27);
        Check.due("once in each text", tellTwice("start 3;"), 3);
    }

    private static int tellTwice(String text) {
        AsleepPass x = Check.told(text);
        Check.tell(x, text);
        return x.rule(2);
    }

    static void termsFault4CarryForAStretchThatHasIt() {
        for (int i = 0; i < 10; i++) {
            refused("carry " + i + " 1;carry " + i + " 2;", 4, 16);
            refused("carry " + i + " 1;carry 0" + i + " 1;", 4, 16);
            refused("carry " + i + " 1;carry " + (i + 1) % 10 + " 1;carry  " + i, 4, 27);
        }
    }

    static void termsFault4TheSameBearerForOthersIsNone() {
        AsleepPass x = Check.told("stretch 0 0;stretch 0 0;bearer plain 0 0;bearer plain 0 0;carry 0 1;carry 1 1;");
        Check.due("stretch(0, 2)", x.stretch(0, 2), 1);
        Check.due("stretch(1, 2)", x.stretch(1, 2), 1);
        Check.tell(x, "stretch 0 0;bearer plain 0 0;carry 0 0;");
        Check.tell(x, "stretch 0 0;bearer plain 0 0;carry 0 0;");
        Check.due("once in each text", x.stretch(0, 2), 0);
    }

    // ---- FAULT 5

    static void termsFault5TheEleventhStretch() {
        Check.due("ten", Check.told(TEN_STRETCHES + "bearer plain 0 0;").rule(0), 10);
        refused(TEN_STRETCHES + "bearer plain 0 0; stretch 0 0;", 5, 128);
        refused(TEN_STRETCHES + "stretch", 5, 110);
    }

    static void termsFault5TheSeventhBearer() {
        Check.due("six", Check.told(SIX_BEARERS).rule(1), 6);
        refused(SIX_BEARERS + "  bearer twin 0 0;", 5, 92);
        refused(SIX_BEARERS + "bearer", 5, 90);
    }

    // ---- FAULTS 6 and 7

    static void termsFault6AStretchThatThereIsNot() {
        StringBuilder stretches = new StringBuilder("bearer tall 0 0;");
        for (int many = 0; many < 10; many++) {
            String text = stretches + "carry " + many + " 0;";
            refused(text, 6, text.length());
            stretches.append("stretch0 0;");
            Check.due("one more", Check.told(stretches + "carry " + many + " 0;").rule(0), many + 1);
        }
    }

    static void termsFault6ABearerThatThereIsNot() {
        StringBuilder bearers = new StringBuilder("stretch 0 0;");
        for (int many = 0; many < 6; many++) {
            String text = bearers + "carry 0 " + many + ";";
            refused(text, 6, text.length());
            bearers.append("bearer twin0 0;");
            Check.due("one more", Check.told(bearers + "carry 0 " + many + ";").stretch(0, 2), many);
        }
    }

    static void termsFault6BehindAll() {
        AsleepPass x = Check.told("carry 1 1;stretch 0 0;bearer plain 0 0;bearer plain 0 0;stretch 0 0;");
        Check.due("carry may come ahead", x.stretch(1, 2), 1);
        Check.due("and none for the other", x.stretch(0, 2), 0);
        refused("carry 9 5;start 0;", 3, 16);
        refused("carry 9 5;   ", 6, 13);
    }

    static void termsFault7StretchesWithoutBearers() {
        refused("stretch 0 0;", 7, 12);
        refused("start 4; stretch 0 0;  ", 7, 23);
        refused(TEN_STRETCHES, 7, 110);
        Check.due("BEARERS without STRETCHES", Check.told("bearer plain 0 0;").rule(1), 1);
    }

    static void termsFault6AheadOf7() {
        refused("stretch 0 0;carry 0 0;", 6, 22);
        refused("stretch 0 0;carry 1 0;", 6, 22);
    }

    // ---- the first met

    static void termsATokenIsReadWhenTheOneBeforeHasBeenTaken() {
        refused("pony?", 2, 0);
        refused("5?", 2, 0);
        refused(";?", 2, 0);
        refused("start x?", 2, 6);
        refused("start 0?", 3, 6);
        refused("start 1;start?", 4, 8);
        refused("start 1;start 123", 4, 8);
        refused("carry 1 1;carry 1?", 4, 16);
        refused(TEN_STRETCHES + "stretch?", 5, 110);
        refused(SIX_BEARERS + "bearer?", 5, 90);
        refused("bearer pony?", 2, 7);
        refused("stretch 0 0; ?", 1, 13);
    }

    static void termsOfSeveralTheFirstMet() {
        refused("start 0;start 0;", 3, 6);
        refused("? start 0;", 1, 0);
        refused("carry 10 6;", 3, 6);
        refused("carry 9 6;carry 9 6;", 3, 8);
        refused("start 1;start 0;", 4, 8);
    }
}
