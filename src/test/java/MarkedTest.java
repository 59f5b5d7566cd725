/** Promises 29 to 33: mark, wipe, paths, eye, sure. */
public final class MarkedTest {
    private static final int BAD = AsleepPass.BAD;
    private static final int NONE = AsleepPass.NONE;

    public static void main(String[] args) {
        markAndWipe();
        pathsOfTwo();
        pathsEndWhereItWakes();
        surelyUpAndDown();
        atNine();
        allOfTen();
        refused();
        Check.finish();
    }

    private static void markAndWipe() {
        AsleepPass x = Check.told("start 5;stretch 1 0;stretch 1 0;bearer plain 0 0;");
        for (int n = 1; n <= 6; n++) {
            Check.due("mark " + n, x.mark(1, n == 1 ? 3 : n == 2 ? 9 : 0), n);
        }
        Check.due("mark 7", x.mark(0, 0), AsleepPass.FULL);
        Check.due("mark 7, BAD comes first", x.mark(0, 10), BAD);
        Check.due("count(1)", x.count(1), 6);
        Check.due("paths()", x.paths(), 0);
        Check.due("eye(3)", x.eye(3), 0);
        Check.due("sure(0)", x.sure(0), NONE);
        Check.due("sure(1)", x.sure(1), NONE);
        Check.due("wipe(7)", x.wipe(7), BAD);
        Check.due("wipe(-1)", x.wipe(-1), BAD);
        Check.due("wipe(1), the first stays", x.wipe(1), 6);
        Check.due("count(1)", x.count(1), 1);
        Check.due("paths()", x.paths(), 1);
        Check.due("sure(0)", x.sure(0), 3);
        Check.due("wipe(2)", x.wipe(2), BAD);
        Check.due("wipe(1), all stay", x.wipe(1), 1);
        Check.due("wipe(0)", x.wipe(0), 1);
        Check.due("paths()", x.paths(), 4);
    }

    private static void pathsOfTwo() {
        AsleepPass x = Check.told("start 5;stretch 1 0;stretch 1 0;bearer plain 0 0;");
        Check.due("eye(4)", x.eye(4), 1);
        Check.due("eye(5)", x.eye(5), 2);
        Check.due("eye(6)", x.eye(6), 1);
        Check.due("eye(7)", x.eye(7), 2);
        Check.due("eye(0)", x.eye(0), 0);
        Check.due("eye(1)", x.eye(1), 0);
        x.mark(1, 5);
        Check.due("paths() to 5", x.paths(), 2);
        Check.due("sure(0)", x.sure(0), 0);
        Check.due("sure(1)", x.sure(1), 0);
        Check.due("eye(4)", x.eye(4), 1);
        Check.due("eye(7), not by these", x.eye(7), 0);
        x.mark(0, 4);
        Check.due("paths() by 4 to 5", x.paths(), 1);
        Check.due("sure(0)", x.sure(0), 1);
        Check.due("sure(1)", x.sure(1), 2);
        Check.due("eye(6), not by it", x.eye(6), 0);
        x.mark(0, 4);
        Check.due("the same again", x.paths(), 1);
        x.mark(0, 6);
        Check.due("both can't be", x.paths(), 0);
        x.wipe(0);
        x.mark(1, 7);
        Check.due("eye(4): it can be reached, but not left so", x.eye(4), 0);
        Check.due("eye(6)", x.eye(6), 1);
        Check.due("eye(7)", x.eye(7), 2);
    }

    private static void pathsEndWhereItWakes() {
        AsleepPass x = Check.told("start 1;stretch 1 0;stretch 1 0;stretch 1 0;bearer plain 0 0;");
        // Awake at once; or 2, then 1 (awake, 2) or 3 (2, 4).
        Check.due("paths()", x.paths(), 5);
        Check.due("eye(0), from there on", x.eye(0), 7);
        Check.due("eye(1)", x.eye(1), 2);
        Check.due("eye(2)", x.eye(2), 5);
        x.mark(1, 0);
        Check.due("paths()", x.paths(), 1);
        Check.due("sure(0)", x.sure(0), 1);
        Check.due("sure(1), behind it neither", x.sure(1), 0);
        Check.due("eye(0)", x.eye(0), 7);
        x.wipe(0);
        x.mark(2, 0);
        Check.due("paths()", x.paths(), 2);
        Check.due("sure(0)", x.sure(0), 0);
        Check.due("eye(0)", x.eye(0), 7);
        x.mark(0, 2);
        Check.due("eye(0)", x.eye(0), 4);
        Check.due("sure(0)", x.sure(0), 6);
        Check.due("sure(1)", x.sure(1), 1);
    }

    private static void surelyUpAndDown() {
        AsleepPass x = Check.told("start 2;stretch 0 0;stretch 9 9;stretch 1 0;stretch 0 0;"
            + "bearer plain 9 0;bearer plain 0 0;carry 1 1;carry 3 0;carry 2 1;");
        // HARM 0, 20, 1, 9: up to 3, down to 2, then as it may.
        Check.due("harm(1, 0, 1)", x.harm(1, 0, 1), 20);
        Check.due("harm(3, 1, 0)", x.harm(3, 1, 0), 9);
        Check.due("paths()", x.paths(), 4);
        Check.due("sure(0)", x.sure(0), 2);
        Check.due("sure(1)", x.sure(1), 1);
        Check.due("eye(3)", x.eye(3), 5);
        Check.due("eye(2)", x.eye(2), 10);
        Check.due("eye(1)", x.eye(1), 4);
        Check.due("eye(0)", x.eye(0), 8);
        x.mark(0, 1);
        Check.due("it can't fall where HARM is 0", x.paths(), 0);
        AsleepPass one = Check.told("stretch 0 0;stretch 9 9;bearer plain 9 0;bearer plain 0 0;carry 1 1;");
        Check.due("one PATH alone", one.paths(), 1);
        Check.due("sure(0)", one.sure(0), 2);
        Check.due("sure(1)", one.sure(1), 1);
        x.wipe(0);
        x.mark(1, 4);
        Check.due("it can't rise where HARM is 20", x.paths(), 0);
    }

    private static void atNine() {
        AsleepPass x = Check.told("start 9;stretch 1 0;stretch 1 0;bearer plain 0 0;");
        Check.due("paths()", x.paths(), 4);
        Check.due("eye(9)", x.eye(9), 3);
        x.mark(1, 9);
        Check.due("twice at 9, or back to it", x.paths(), 2);
        Check.due("sure(1), rises or stays", x.sure(1), 2);
        x.mark(0, 9);
        Check.due("sure(1), stays twice", x.sure(1), 3);
        x.wipe(0);
        x.mark(0, 8);
        Check.due("sure(0)", x.sure(0), 1);
    }

    private static void allOfTen() {
        AsleepPass x = Check.told("start 9;" + "stretch 1 0;".repeat(10) + "bearer plain 0 0;");
        // All but those that go on behind the ninth stretch's waking: 1024 - 1.
        Check.due("paths()", x.paths(), 1023);
        x.mark(9, 0);
        Check.due("paths()", x.paths(), 2);
        Check.due("sure(0)", x.sure(0), 510);
        AsleepPass none = new AsleepPass();
        Check.due("paths() of nothing", none.paths(), 1);
        Check.due("sure(0) of nothing", none.sure(0), 0);
        Check.due("sure(1) of nothing", none.sure(1), 0);
        Check.due("eye(5) of nothing", none.eye(5), 0);
    }

    private static void refused() {
        AsleepPass x = Check.told("stretch 1 0;bearer plain 0 0;");
        Check.due("mark(1, 0)", x.mark(1, 0), BAD);
        Check.due("mark(-1, 0)", x.mark(-1, 0), BAD);
        Check.due("mark(0, -1)", x.mark(0, -1), BAD);
        Check.due("mark(0, 10)", x.mark(0, 10), BAD);
        Check.due("count(1)", x.count(1), 0);
        Check.due("eye(10)", x.eye(10), BAD);
        Check.due("eye(-1)", x.eye(-1), BAD);
        Check.due("sure(2)", x.sure(2), BAD);
        Check.due("sure(-1)", x.sure(-1), BAD);
        x.mark(0, 9);
        Check.due("sure(2), BAD comes first", x.sure(2), BAD);
    }
}
