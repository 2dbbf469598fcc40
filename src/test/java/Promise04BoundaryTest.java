/** Promise 4, argument: the boundary cases. Behind each sentence of the document stand its cases. */
public final class Promise04BoundaryTest {
    public static void main(String[] args) throws IllegalAccessException {
        Cases.run(Promise04BoundaryTest.class);
    }

    // "Sets the ARGUMENT (1 .. 9, else REFUSED): DONE."

    static void oneToNineAreTaken(Check check) {
        EditorCore x = new EditorCore();
        for (int n = 9; n >= 1; n--) {
            check.sets(x, n);
            check.due("n", x.info(12), n);
        }
    }

    static void zeroIsRefused(Check check) {
        Twins.refused(check, "argument(0)", x -> x.argument(0));
    }

    static void tenIsRefused(Check check) {
        Twins.refused(check, "argument(10)", x -> x.argument(10));
    }

    static void numbersFarOffAreRefused(Check check) {
        EditorCore x = new EditorCore();
        check.sets(x, 4);
        for (int n : new int[] {Integer.MIN_VALUE, -9, -1, 11, 100, 256 + 5, Integer.MAX_VALUE}) {
            check.due("argument(" + n + ")", x.argument(n), -1);
            check.due("n stays", x.info(12), 4);
        }
    }

    static void theLatestHolds(Check check) {
        EditorCore x = check.start("abcdefghi|");
        check.sets(x, 9);
        check.sets(x, 2);
        check.does(x, 1);
        check.due("point", x.info(1), 7);
    }

    // "1 unless set by argument, which a done command sets back to 1"

    static void itHoldsForOneCommand(Check check) {
        EditorCore x = check.start("abcdefghi|");
        check.doesTimes(x, 3, 1);
        check.due("n", x.info(12), 1);
        check.does(x, 1);
        check.due("point", x.info(1), 5);
    }

    static void whatIsNotDoneLeavesIt(Check check) {
        EditorCore x = check.start("abc|");
        check.sets(x, 3);
        check.answers(x, 8, -2);
        check.answers(x, 22, -1);
        check.due("type(0)", x.type(0), -1);
        check.presses(x, 3, -4);
        check.presses(x, 16, -1);
        check.due("macro(false)", x.macro(false), -1);
        check.due("n", x.info(12), 3);
        check.does(x, 1);
        check.due("three back", Check.shown(x), "|abc");
    }

    static void whatIsNoCommandLeavesIt(Check check) {
        EditorCore x = check.start("abc|");
        check.sets(x, 3);
        check.binds(x, 1, 2, -1, 1, 0);
        x.marker(0, true);
        x.frame(5, 5);
        check.due("macro(true)", x.macro(true), 0);
        check.presses(x, 1, 1000);
        check.due("macro(false)", x.macro(false), 1);
        check.due("n", x.info(12), 3);
        check.presses(x, 2, 0);
        check.due("three back", Check.shown(x), "|abc");
    }

    static void aFullTextLeavesIt(Check check) {
        EditorCore x = new EditorCore();
        check.fills(x, 'a', 98);
        check.sets(x, 3);
        check.due("type(97)", x.type('a'), -3);
        check.due("n", x.info(12), 3);
    }

    static void itIsNoCommand(Check check) {
        EditorCore x = check.start("ab");
        check.sets(x, 2);
        check.due("last command", x.info(13), 100);
        check.types(x, "c");
        check.due("steps", x.info(4), 1);
    }

    static void itIsNoEvent(Check check) {
        EditorCore x = new EditorCore();
        check.due("macro(true)", x.macro(true), 0);
        check.sets(x, 5);
        check.types(x, "a");
        check.due("macro(false)", x.macro(false), 1);
        check.answers(x, 21, 1);
        check.due("length", x.info(0), 6);
    }
}
