/** Promise 9, frame: the boundary cases. Behind each sentence of the document stand its cases. */
public final class Promise09BoundaryTest {
    public static void main(String[] args) throws IllegalAccessException {
        Cases.run(Promise09BoundaryTest.class);
    }

    // "The frame gets so many columns (4 .. 20) and rows (2 .. 6)"

    private static void frames(Check check, int columns, int rows) {
        EditorCore x = new EditorCore();
        check.due("frame(" + columns + ", " + rows + ")", x.frame(columns, rows), 0);
        check.due("the last cell", x.cell(rows - 1, columns - 1), 0);
        check.due("a row more", x.cell(rows, 0), -1);
        check.due("a column more", x.cell(0, columns), -1);
    }

    static void theSmallest(Check check) {
        frames(check, 4, 2);
    }

    static void theLargest(Check check) {
        frames(check, 20, 6);
    }

    static void narrowAndHighWideAndLow(Check check) {
        frames(check, 4, 6);
        frames(check, 20, 2);
    }

    static void threeColumnsAreRefused(Check check) {
        Twins.refused(check, "frame(3, 4)", x -> x.frame(3, 4));
    }

    static void twentyOneColumnsAreRefused(Check check) {
        Twins.refused(check, "frame(21, 4)", x -> x.frame(21, 4));
    }

    static void oneRowIsRefused(Check check) {
        Twins.refused(check, "frame(10, 1)", x -> x.frame(10, 1));
    }

    static void sevenRowsAreRefused(Check check) {
        Twins.refused(check, "frame(10, 7)", x -> x.frame(10, 7));
    }

    static void numbersFarOffAreRefused(Check check) {
        EditorCore x = new EditorCore();
        for (int number : new int[] {Integer.MIN_VALUE, -10, -1, 0, 100, Integer.MAX_VALUE}) {
            check.due("frame(" + number + ", 4)", x.frame(number, 4), -1);
            check.due("frame(10, " + number + ")", x.frame(10, number), -1);
        }
        check.due("cell(3, 9)", x.cell(3, 9), 0);
        check.due("cell(4, 9)", x.cell(4, 9), -1);
        check.due("cell(3, 10)", x.cell(3, 10), -1);
    }

    // "and its first row becomes 0: DONE"

    static void theFirstRowBecomesZero(Check check) {
        EditorCore x = check.start("a/b/c/d/e/f|");
        check.due("first row", x.info(10), 2);
        check.goTo(x, 4);
        check.due("first row", x.info(10), 2);
        check.due("frame(10, 4)", x.frame(10, 4), 0);
        check.due("first row", x.info(10), 0);
    }

    static void thenItIsMovedAsPointAsks(Check check) {
        EditorCore x = check.start("a/b/c/d/e/f|");
        check.due("frame(10, 2)", x.frame(10, 2), 0);
        check.due("first row", x.info(10), 4);
        check.due("frame(10, 6)", x.frame(10, 6), 0);
        check.due("first row", x.info(10), 0);
    }

    static void refusedItStays(Check check) {
        EditorCore x = check.start("a/b/c/d/e/f|");
        check.due("first row", x.info(10), 2);
        check.goTo(x, 4);
        check.due("frame(10, 7)", x.frame(10, 7), -1);
        check.due("frame(3, 4)", x.frame(3, 4), -1);
        check.due("first row", x.info(10), 2);
    }

    static void rowsAreCutAnew(Check check) {
        EditorCore x = check.start("abcdefghi|");
        check.due("rows of 10", x.info(9), 1);
        check.due("frame(9, 4)", x.frame(9, 4), 0);
        check.due("rows of 9", x.info(9), 2);
        check.due("frame(4, 4)", x.frame(4, 4), 0);
        check.due("rows of 4", x.info(9), 3);
        check.due("point's row", x.info(11), 2);
    }

    static void itIsNoCommand(Check check) {
        EditorCore x = check.start("|ab/c");
        check.does(x, 10);
        check.sets(x, 4);
        check.due("frame(5, 5)", x.frame(5, 5), 0);
        check.due("last command", x.info(13), 10);
        check.due("n", x.info(12), 4);
        check.does(x, 10);
        check.due("one kill", Check.kills(x), "ab/");
    }
}
