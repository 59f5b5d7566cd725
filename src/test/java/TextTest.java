/** Promises 2 to 8: feed, end, text, fault, rule, stretch, bearer. */
public final class TextTest {
    private static final int BAD = AsleepPass.BAD;

    public static void main(String[] args) {
        feedAndEnd();
        whatIsTold();
        blanksAndTokens();
        faultsOfTokens();
        faultsOfNumbers();
        faultsOfTwiceAndMany();
        faultsBehindAll();
        theFirstFaultIsTold();
        whatATextTakesAway();
        Check.finish();
    }

    private static void feedAndEnd() {
        AsleepPass x = new AsleepPass();
        for (int n = 1; n <= 40; n++) {
            Check.due("feed " + n, x.feed(0x2020202020202020L), 8 * n);
        }
        Check.due("feed 41", x.feed(0), AsleepPass.FULL);
        Check.due("count(3)", x.count(3), 320);
        Check.due("end(321)", x.end(321), BAD);
        Check.due("end(-1)", x.end(-1), BAD);
        Check.due("end(313)", x.end(313), 320);
        Check.due("feed beyond 320", x.feed(0), AsleepPass.FULL);
        Check.due("end(312)", x.end(312), 313);
        Check.due("feed up to 320", x.feed(0x2020202020202020L), 320);
        Check.due("text() of 320 blanks", x.text(), 0);
        Check.due("end(0)", x.end(0), 0);
        Check.due("end(1)", x.end(1), BAD);
        Check.due("feed, the highest byte first", x.feed(0x3B00000000000000L), 8);
        Check.due("text()", x.text(), -10);
        Check.due("fault()", x.fault(), 2);
        x.feed(0x20202020202020FFL);
        Check.due("text()", x.text(), -17);
        Check.due("fault()", x.fault(), 1);
        Check.due("fault() again", x.fault(), 1);
    }

    private static void whatIsTold() {
        AsleepPass x = Check.told("bearer paid 9 8; start 7; stretch 3 2; carry 1 4; bearer plain 1 0;"
            + "stretch 0 9; bearer tall 2 3; bearer twin 4 5; bearer trembler 6 7; bearer hummer 0 9;");
        Check.due("rule(0)", x.rule(0), 2);
        Check.due("rule(1)", x.rule(1), 6);
        Check.due("rule(2)", x.rule(2), 7);
        Check.due("rule(3)", x.rule(3), BAD);
        Check.due("rule(-1)", x.rule(-1), BAD);
        int[][] stretches = {{3, 2, 0}, {0, 9, 4}};
        int[][] bearers = {{5, 9, 8}, {0, 1, 0}, {3, 2, 3}, {4, 4, 5}, {2, 6, 7}, {1, 0, 9}};
        for (int what = 0; what < 3; what++) {
            for (int i = 0; i < 2; i++) {
                Check.due("stretch(" + i + ", " + what + ")", x.stretch(i, what), stretches[i][what]);
            }
            for (int b = 0; b < 6; b++) {
                Check.due("bearer(" + b + ", " + what + ")", x.bearer(b, what), bearers[b][what]);
            }
            Check.due("stretch(2, " + what + ")", x.stretch(2, what), BAD);
            Check.due("stretch(-1, " + what + ")", x.stretch(-1, what), BAD);
            Check.due("bearer(6, " + what + ")", x.bearer(6, what), BAD);
            Check.due("bearer(-1, " + what + ")", x.bearer(-1, what), BAD);
        }
        Check.due("stretch(0, 3)", x.stretch(0, 3), BAD);
        Check.due("stretch(0, -1)", x.stretch(0, -1), BAD);
        Check.due("bearer(0, 3)", x.bearer(0, 3), BAD);
        Check.due("bearer(0, -1)", x.bearer(0, -1), BAD);
        Check.tell(x, "");
        Check.due("rule(0) of an empty text", x.rule(0), 0);
        Check.due("rule(1) of an empty text", x.rule(1), 0);
        Check.due("rule(2) of an empty text", x.rule(2), 5);
        Check.tell(x, "bearer plain 0 0;");
        Check.due("BEARERS without STRETCHES", x.rule(1), 1);
        Check.tell(x, "stretch 1 1;stretch 1 1;bearer plain 0 0;");
        Check.due("THE ORDER has BEARER 0, if none is told", x.stretch(1, 2), 0);
        Check.tell(x, "stretch 1 1;stretch 1 1;bearer plain 0 0;bearer plain 0 0;carry 0 1;carry 1 1;");
        Check.tell(x, "stretch 1 1;stretch 1 1;bearer plain 0 0;bearer plain 0 0;");
        Check.due("BEARER 0 again", x.stretch(0, 2), 0);
        Check.due("BEARER 0 again", x.stretch(1, 2), 0);
    }

    private static void blanksAndTokens() {
        AsleepPass x = new AsleepPass();
        Check.tell(x, "start5;bearer tall09 08;stretch07 6;carry0 0;");
        Check.due("rule(2)", x.rule(2), 5);
        Check.due("bearer(0, 1)", x.bearer(0, 1), 9);
        Check.due("stretch(0, 0)", x.stretch(0, 0), 7);
        Check.tell(x, "   start    9   ;   ");
        Check.due("rule(2)", x.rule(2), 9);
        Check.tell(x, "bearer plain 0 0;stretch 1 2;stretch 3 4;stretch 5 6;stretch 7 8;stretch 9 0;"
            + "stretch 0 1;stretch 2 3;stretch 4 5;stretch 6 7;stretch 8 9;carry 9 0;");
        Check.due("rule(0)", x.rule(0), 10);
        Check.due("stretch(9, 1)", x.stretch(9, 1), 9);
    }

    private static void faultsOfTokens() {
        AsleepPass x = Check.told("start 3;");
        Check.refused(x, "?", 1, 0);
        Check.refused(x, "start 5; ,", 1, 9);
        Check.refused(x, "Start 5;", 1, 0);
        Check.refused(x, "start\n5;", 1, 5);
        Check.refused(x, "start 5\0", 1, 7);
        Check.refused(x, "start \u00b9;", 1, 6);
        Check.refused(x, "start 005;", 1, 6);
        Check.refused(x, "  123", 1, 2);
        Check.refused(x, "start 5 123;", 1, 8);
        Check.refused(x, "starts 5;", 2, 0);
        Check.refused(x, "star 5;", 2, 0);
        Check.refused(x, "plain 5 5;", 2, 0);
        Check.refused(x, "xtart 5;", 2, 0);
        Check.refused(x, "zebra", 2, 0);
        Check.refused(x, "az 5;", 2, 0);
        Check.refused(x, "`;", 1, 0);
        Check.refused(x, "{;", 1, 0);
        Check.refused(x, "/;", 1, 0);
        Check.refused(x, ":;", 1, 0);
        Check.refused(x, "start 5; ;", 2, 9);
        Check.refused(x, "5;", 2, 0);
        Check.refused(x, ";", 2, 0);
        Check.refused(x, "start", 2, 5);
        Check.refused(x, "start 5  ", 2, 9);
        Check.refused(x, "start ;", 2, 6);
        Check.refused(x, "start a;", 2, 6);
        Check.refused(x, "start 5 5;", 2, 8);
        Check.refused(x, "start 5 start 5;", 2, 8);
        Check.refused(x, "stretch 5;", 2, 9);
        Check.refused(x, "stretch 5 5 5;", 2, 12);
        Check.refused(x, "bearer 5 5 5;", 2, 7);
        Check.refused(x, "bearer ;", 2, 7);
        Check.refused(x, "bearer", 2, 6);
        Check.refused(x, "bearer plains 5 5;", 2, 7);
        Check.refused(x, "bearer start 5 5;", 2, 7);
        Check.refused(x, "bearer tall plain 5;", 2, 12);
        Check.refused(x, "bearer tall 5;", 2, 13);
        Check.refused(x, "carry 0;", 2, 7);
        Check.refused(x, "carry 0 0", 2, 9);
        Check.due("that which was told stays", x.rule(2), 3);
    }

    private static void faultsOfNumbers() {
        AsleepPass x = new AsleepPass();
        Check.refused(x, "start 0;", 3, 6);
        Check.refused(x, "start 00;", 3, 6);
        Check.refused(x, "start 10;", 3, 6);
        Check.refused(x, "stretch 10 0;", 3, 8);
        Check.refused(x, "stretch 9 10;", 3, 10);
        Check.refused(x, "bearer plain 10 0;", 3, 13);
        Check.refused(x, "bearer plain 9 99;", 3, 15);
        Check.refused(x, "carry 10 0;", 3, 6);
        Check.refused(x, "carry 9 6;", 3, 8);
    }

    private static void faultsOfTwiceAndMany() {
        AsleepPass x = new AsleepPass();
        Check.refused(x, "start 1; start 1;", 4, 9);
        Check.refused(x, "start 1; start", 4, 9);
        Check.refused(x, "carry 3 0;carry 4 0; carry 3 1;", 4, 27);
        Check.refused(x, "carry 3 0;carry 03", 4, 16);
        String stretches = "stretch0 0;".repeat(10);
        String bearers = "bearer twin0 0;".repeat(6);
        Check.refused(x, stretches + "stretch0 0;", 5, 110);
        Check.refused(x, stretches + " stretch ?", 5, 111);
        Check.refused(x, bearers + "bearer twin0 0;", 5, 90);
        Check.refused(x, bearers + "  bearer", 5, 92);
        Check.tell(x, stretches + bearers + "start 1;carry 9 5;");
    }

    private static void faultsBehindAll() {
        AsleepPass x = Check.told("start 4;");
        Check.refused(x, "stretch 0 0;", 7, 12);
        Check.refused(x, "stretch 0 0;   ", 7, 15);
        Check.refused(x, "carry 0 0; ", 6, 11);
        Check.refused(x, "stretch 0 0; carry 0 0;", 6, 23);
        Check.refused(x, "carry 1 0;stretch 0 0;bearer plain 0 0;", 6, 39);
        Check.refused(x, "carry 0 1;stretch 0 0;bearer plain 0 0;", 6, 39);
        Check.refused(x, "carry 0 0;bearer plain 0 0;", 6, 27);
        Check.tell(x, "carry 0 0;stretch 0 0;bearer plain 0 0;");
        Check.refused(x, "carry 0 0;carry 1 0;stretch 0 0;bearer plain 0 0;", 6, 49);
        Check.refused(x, "carry 1 0;carry 0 0;stretch 0 0;bearer plain 0 0;", 6, 49);
        Check.due("rule(0)", x.rule(0), 1);
    }

    private static void theFirstFaultIsTold() {
        AsleepPass x = new AsleepPass();
        Check.refused(x, "start 0 ?", 3, 6);
        Check.refused(x, "pony ?", 2, 0);
        Check.refused(x, "start ? 0", 1, 6);
        Check.refused(x, "start 3; start 100", 4, 9);
        Check.refused(x, "stretch 0 0; carry 9 5; start 0;", 3, 30);
        Check.refused(x, "bearer 123", 1, 7);
        Check.refused(x, "stretch 10 ?", 3, 8);
        Check.refused(x, "stretch 1 10 ?", 3, 10);
        Check.refused(x, "bearer pony ?", 2, 7);
        Check.refused(x, "bearer tall 10 ?", 3, 12);
        Check.refused(x, "bearer tall 1 10 ?", 3, 14);
        Check.refused(x, "carry 10 ?", 3, 6);
        Check.refused(x, "carry 1 6 ?", 3, 8);
        Check.refused(x, "carry 1 5 5 ?", 2, 10);
        Check.refused(x, "start start ?", 2, 6);
        Check.refused(x, "bearer ? ", 1, 7);
        Check.refused(x, "stretch ? 0 ?", 1, 8);
    }

    private static void whatATextTakesAway() {
        AsleepPass x = Check.told("stretch 1 1;bearer plain 0 0;");
        x.learn(0, AsleepPass.NONE, 0, 2);
        x.mark(0, 4);
        x.keep(0);
        x.keep(1);
        x.sheet(0, 2, 3);
        String was = Check.state(x);
        Check.lay(x, "start 0;");
        x.text();
        Check.due("LEARNT stay if refused", x.count(0), 1);
        Check.due("MARKED stay if refused", x.count(1), 1);
        Check.due("IMAGES stay if refused", x.count(2), 2);
        Check.tell(x, "stretch 1 1;bearer plain 0 0;");
        Check.due("LEARNT", x.count(0), 0);
        Check.due("MARKED", x.count(1), 0);
        Check.due("IMAGES", x.count(2), 0);
        Check.due("back(0)", x.back(0), AsleepPass.STATE);
        Check.due("back(1)", x.back(1), AsleepPass.STATE);
        Check.due("SHEETS stay", x.count(4), 3);
        Check.dueTrue("the state had what was told", was.startsWith("1 1 5 "));
    }
}
