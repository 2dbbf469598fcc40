/** Promise 14, info: the boundary cases. Behind each sentence of the document stand its cases. */
public final class Promise14BoundaryTest {
    public static void main(String[] args) throws IllegalAccessException {
        Cases.run(Promise14BoundaryTest.class);
    }

    // "another what: REFUSED"

    static void minusOneIsRefused(Check check) {
        Twins.refused(check, "info(-1)", x -> x.info(-1));
    }

    static void fourteenIsRefused(Check check) {
        Twins.refused(check, "info(14)", x -> x.info(14));
    }

    static void numbersFarOffAreRefused(Check check) {
        EditorCore x = check.start("ab|c");
        for (int what : new int[] {Integer.MIN_VALUE, -14, -2, 15, 100, 256, Integer.MAX_VALUE}) {
            check.due("info(" + what + ")", x.info(what), -1);
        }
    }

    // "The text's length (0), POINT (1)"

    static void lengthAndPointFromZeroToHundred(Check check) {
        EditorCore x = new EditorCore();
        check.due("length", x.info(0), 0);
        check.due("point", x.info(1), 0);
        check.fills(x, 'a', 100);
        check.due("length", x.info(0), 100);
        check.due("point", x.info(1), 100);
    }

    // "MARK or -2 (2)"

    static void theMarkFromNoneToHundred(Check check) {
        EditorCore x = new EditorCore();
        check.due("none", x.info(2), -2);
        check.does(x, 15);
        check.due("at 0", x.info(2), 0);
        check.fills(x, 'a', 100);
        check.due("still at 0", x.info(2), 0);
        check.does(x, 15);
        check.due("at 100", x.info(2), 100);
    }

    // "KILLS (3)"

    static void killsFromNoneToFour(Check check) {
        EditorCore x = check.start("ab|");
        check.does(x, 18);
        for (int i = 0; i <= 6; i++) {
            check.due("kills", x.info(3), Math.min(i, 4));
            check.does(x, 12);
        }
    }

    // "STEPS made so far (4)"

    static void stepsGoOnBeyondTwenty(Check check) {
        EditorCore x = new EditorCore();
        for (int i = 1; i <= 25; i++) {
            check.types(x, "a");
            check.does(x, 5);
            check.due("steps", x.info(4), i);
        }
    }

    // "PENDING keys (5)"

    static void pendingFromNoneToTwo(Check check) {
        EditorCore x = new EditorCore();
        check.binds(x, 0, 0, 0, 5, 0);
        check.due("pending", x.info(5), 0);
        check.presses(x, 0, 1000);
        check.due("pending", x.info(5), 1);
        check.presses(x, 0, 1000);
        check.due("pending", x.info(5), 2);
        check.presses(x, 0, 0);
        check.due("pending", x.info(5), 0);
    }

    // "EVENTS of THE MACRO (6), 1 if it is recorded, else 0 (7)"

    static void eventsFromNoneToTwelve(Check check) {
        EditorCore x = new EditorCore();
        check.due("recorded", x.info(7), 0);
        check.due("macro(true)", x.macro(true), 0);
        for (int i = 0; i <= 14; i++) {
            check.due("events", x.info(6), Math.min(i, 12));
            check.due("recorded", x.info(7), 1);
            check.types(x, "a");
        }
        check.due("macro(false)", x.macro(false), 12);
        check.due("events", x.info(6), 12);
        check.due("recorded", x.info(7), 0);
    }

    // "bindings (8)"

    static void bindingsFromNoneToTwentyFour(Check check) {
        EditorCore x = new EditorCore();
        for (int i = 0; i < 26; i++) {
            check.due("bindings", x.info(8), Math.min(i, 24));
            check.binds(x, i / 16, i % 16, -1, 5, i < 24 ? 0 : -3);
        }
    }

    // "rows in all (9)", "POINT's row in all (11)"

    static void rowsBelowAndAboveTheFrameAreCounted(Check check) {
        EditorCore x = check.start("a/b/c/d/e/f/g|");
        check.due("rows", x.info(9), 7);
        check.due("point's row", x.info(11), 6);
        check.does(x, 18);
        check.due("rows", x.info(9), 7);
        check.due("point's row", x.info(11), 0);
    }

    // "the number of the first row, moved as for cell (10)"

    static void theFirstRowIsMovedAsForCell(Check check) {
        EditorCore x = check.start("a/b/c/d/e/f/g|");
        check.due("first row", x.info(10), 3);
        check.doesTimes(x, 3, 3);
        check.due("first row stays", x.info(10), 3);
        check.does(x, 3);
        check.due("up by one", x.info(10), 2);
        check.doesTimes(x, 3, 2);
        check.due("stays again", x.info(10), 2);
        check.does(x, 2);
        check.due("down by one", x.info(10), 3);
    }

    static void itStaysForCellToo(Check check) {
        EditorCore x = check.start("a/b/c/d/e/f/g|");
        check.due("first row", x.info(10), 3);
        check.doesTimes(x, 3, 3);
        check.due("cell(0, 0)", x.cell(0, 0), 'd');
    }

    // "n (12)"

    static void theArgumentFromOneToNine(Check check) {
        EditorCore x = new EditorCore();
        check.due("n", x.info(12), 1);
        check.sets(x, 9);
        check.due("n", x.info(12), 9);
        check.does(x, 0);
        check.due("n", x.info(12), 1);
    }

    // "the LAST COMMAND, 100 for INSERT, -2 for none (13)"

    static void theLastCommandNoneInsertAndNumbers(Check check) {
        EditorCore x = new EditorCore();
        check.due("none", x.info(13), -2);
        check.does(x, 0);
        check.due("0", x.info(13), 0);
        check.types(x, "a");
        check.due("insert", x.info(13), 100);
        check.does(x, 18);
        check.due("18", x.info(13), 18);
    }

    static void askingChangesNothing(Check check) {
        for (int what = 0; what <= 13; what++) {
            int asked = what;
            Twins.alike(check, "info(" + what + ")", () -> check.start("|ab/cd"), () -> {
                EditorCore x = check.start("|ab/cd");
                x.info(asked);
                return x;
            });
        }
        EditorCore x = check.start("|ab/cd");
        check.does(x, 10);
        for (int what = -1; what <= 14; what++) {
            x.info(what);
        }
        check.does(x, 10);
        check.due("one kill", Check.kills(x), "ab/");
    }
}
