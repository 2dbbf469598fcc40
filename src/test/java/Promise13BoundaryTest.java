/** Promise 13, cell: the boundary cases. Behind each sentence of the document stand its cases. */
public final class Promise13BoundaryTest {
    public static void main(String[] args) throws IllegalAccessException {
        Cases.run(Promise13BoundaryTest.class);
    }

    private static EditorCore framed(Check check, int columns, int rows, String letters) {
        EditorCore x = check.start(letters);
        check.due("frame(" + columns + ", " + rows + ")", x.frame(columns, rows), 0);
        return x;
    }

    private static void shows(Check check, String letters, String cells, int rowsInAll) {
        EditorCore x = framed(check, 4, 4, letters);
        check.due("rows of " + letters, x.info(9), rowsInAll);
        check.due("cells of " + letters, Check.cells(x, 4, 4), cells);
    }

    // "each line is cut into pieces of as many characters as there are columns, the last one shorter or as long"

    static void aLineShorterThanARow(Check check) {
        shows(check, "abc|", "abc./..../..../....", 1);
    }

    static void aLineOneLongerThanARow(Check check) {
        shows(check, "abcde|", "abcd/e.../..../....", 2);
    }

    static void aLineOneShorterThanTwoRows(Check check) {
        shows(check, "abcdefg|", "abcd/efg./..../....", 2);
    }

    static void aLineOneLongerThanTwoRows(Check check) {
        shows(check, "abcdefghi|", "abcd/efgh/i.../....", 3);
    }

    static void aLineOneShorterThanARowWithAnEndOfLine(Check check) {
        shows(check, "abc/d|", "abc./d.../..../....", 2);
    }

    static void blanksAreCharacters(Check check) {
        shows(check, "a    b|", "a   / b../..../....", 2);
    }

    // "an empty line is one empty row"

    static void anEmptyText(Check check) {
        shows(check, "|", "..../..../..../....", 1);
    }

    static void anEmptyFirstMiddleAndLastLine(Check check) {
        shows(check, "/a|", "..../a.../..../....", 2);
        shows(check, "a//b|", "a.../..../b.../....", 3);
        shows(check, "a/|", "a.../..../..../....", 2);
        shows(check, "//|", "..../..../..../....", 3);
    }

    // "a line whose length is a multiple of the columns (above 0) has one more, empty row behind"

    static void aLineAsLongAsARow(Check check) {
        shows(check, "abcd|", "abcd/..../..../....", 2);
    }

    static void aLineAsLongAsARowBeforeAnother(Check check) {
        shows(check, "abcd/e|", "abcd/..../e.../....", 3);
    }

    static void aLineAsLongAsTwoRows(Check check) {
        shows(check, "abcdefgh|", "abcd/efgh/..../....", 3);
        shows(check, "abcdefgh/i|", "abcd/efgh/..../i...", 4);
    }

    static void aLineAsLongAsARowBehindAnother(Check check) {
        shows(check, "ab/cdef|", "ab../cdef/..../....", 3);
        shows(check, "/cdef/|", "..../cdef/..../....", 4);
    }

    static void hundredCharactersInOneLine(Check check) {
        EditorCore x = new EditorCore();
        check.fills(x, 'a', 100);
        int[] columns = {4, 5, 7, 10, 11, 20};
        int[] due = {26, 21, 15, 11, 10, 6};
        for (int i = 0; i < columns.length; i++) {
            check.due("frame", x.frame(columns[i], 6), 0);
            check.due("rows of " + columns[i], x.info(9), due[i]);
            check.due("point's row of " + columns[i], x.info(11), due[i] - 1);
        }
    }

    static void hundredEmptyLines(Check check) {
        EditorCore x = new EditorCore();
        for (int i = 0; i < 11; i++) {
            check.sets(x, 9);
            check.types(x, "/");
        }
        check.types(x, "/");
        check.due("rows", x.info(9), 101);
        check.due("point's row", x.info(11), 100);
        check.due("first row", x.info(10), 97);
        check.due("cell(3, 0)", x.cell(3, 0), 0);
    }

    // "POINT is in the row of its line whose number there (from 0) is COLUMN / columns"

    static void pointsRowBehindAFullRow(Check check) {
        EditorCore x = framed(check, 4, 6, "abcd/efghi/|");
        int[] due = {0, 0, 0, 0, 1, 2, 2, 2, 2, 3, 3, 4};
        for (int place = 0; place < due.length; place++) {
            check.goTo(x, place);
            check.due("point's row at " + place, x.info(11), due[place]);
        }
    }

    // "Before showing, the first row is moved by as little as makes POINT's row one of the frame's"

    static void pointInTheLastRowOfTheFrameMovesNothing(Check check) {
        EditorCore x = framed(check, 4, 3, "a/b/c|/d/e");
        check.due("cells", Check.cells(x, 4, 3), "a.../b.../c...");
        check.due("first row", x.info(10), 0);
    }

    static void pointOneBelowTheFrameMovesItByOne(Check check) {
        EditorCore x = framed(check, 4, 3, "a/b/c/d|/e");
        check.due("cells", Check.cells(x, 4, 3), "b.../c.../d...");
        check.due("first row", x.info(10), 1);
    }

    static void pointFarBelowBecomesTheLastRow(Check check) {
        EditorCore x = framed(check, 4, 3, "a/b/c/d/e/f|");
        check.due("cells", Check.cells(x, 4, 3), "d.../e.../f...");
        check.due("first row", x.info(10), 3);
    }

    static void pointInTheFirstRowOfTheFrameMovesNothing(Check check) {
        EditorCore x = framed(check, 4, 3, "a/b/c/d/e/f|");
        check.due("first row", x.info(10), 3);
        check.doesTimes(x, 2, 3);
        check.due("cells", Check.cells(x, 4, 3), "d.../e.../f...");
        check.due("first row", x.info(10), 3);
    }

    static void pointOneAboveTheFrameMovesItByOne(Check check) {
        EditorCore x = framed(check, 4, 3, "a/b/c/d/e/f|");
        check.due("first row", x.info(10), 3);
        check.doesTimes(x, 3, 3);
        check.due("cells", Check.cells(x, 4, 3), "c.../d.../e...");
        check.due("first row", x.info(10), 2);
    }

    static void pointFarAboveBecomesTheFirstRow(Check check) {
        EditorCore x = framed(check, 4, 3, "a/b/c/d/e/f|");
        check.due("first row", x.info(10), 3);
        check.doesTimes(x, 9, 3);
        check.due("cells", Check.cells(x, 4, 3), "a.../b.../c...");
        check.due("first row", x.info(10), 0);
    }

    static void pointInTheEmptyRowBehindAFullOne(Check check) {
        EditorCore x = framed(check, 4, 2, "abcdefgh|");
        check.due("cells", Check.cells(x, 4, 2), "efgh/....");
        check.due("first row", x.info(10), 1);
    }

    // "it stays so"

    static void theFirstRowStays(Check check) {
        EditorCore x = framed(check, 4, 3, "a/b/c/d/e/f|");
        check.due("cell(0, 0)", x.cell(0, 0), 'd');
        check.does(x, 3);
        check.due("cell(0, 0)", x.cell(0, 0), 'd');
        check.does(x, 3);
        check.due("cell(0, 0)", x.cell(0, 0), 'd');
    }

    static void theFirstRowMovesWhenItIsShownAlone(Check check) {
        EditorCore x = framed(check, 4, 3, "a/b/c/d/e/f|");
        check.doesTimes(x, 9, 3);
        check.due("never shown below", x.cell(0, 0), 'a');
        check.doesTimes(x, 9, 2);
        check.due("info(11)", x.info(11), 5);
        check.due("info(9)", x.info(9), 6);
        check.doesTimes(x, 3, 3);
        check.due("not shown below either", x.cell(0, 0), 'a');
    }

    static void aTextThatShrinksAboveTheFrame(Check check) {
        EditorCore x = framed(check, 4, 3, "a/b/c/d/e/f|");
        check.due("first row", x.info(10), 3);
        check.doesTimes(x, 3, 9);
        check.due("text", Check.shown(x), "a/b/c/d/|");
        check.due("cells", Check.cells(x, 4, 3), "d.../..../....");
        check.doesTimes(x, 9, 9);
        check.due("an empty text", Check.cells(x, 4, 3), "..../..../....");
        check.due("first row", x.info(10), 0);
    }

    static void aTextThatGrowsBelowPoint(Check check) {
        EditorCore x = framed(check, 4, 2, "a/b|");
        check.due("cells", Check.cells(x, 4, 2), "a.../b...");
        check.types(x, "cde");
        check.due("point in the row behind", Check.cells(x, 4, 2), "bcde/....");
    }

    // "The code of the character at the frame's row and column (from 0), 0 where there is none"

    static void behindALinesEndAndBehindTheText(Check check) {
        EditorCore x = framed(check, 4, 3, "ab/c|");
        check.due("cell(0, 1)", x.cell(0, 1), 'b');
        check.due("an end of line is none", x.cell(0, 2), 0);
        check.due("cell(0, 3)", x.cell(0, 3), 0);
        check.due("cell(1, 0)", x.cell(1, 0), 'c');
        check.due("cell(1, 1)", x.cell(1, 1), 0);
        check.due("cell(2, 0)", x.cell(2, 0), 0);
        check.due("cell(2, 3)", x.cell(2, 3), 0);
    }

    static void aBlankIsACharacter(Check check) {
        EditorCore x = framed(check, 4, 3, " |");
        check.due("cell(0, 0)", x.cell(0, 0), 32);
        check.due("cell(0, 1)", x.cell(0, 1), 0);
    }

    static void theLastCell(Check check) {
        EditorCore x = new EditorCore();
        check.due("frame(20, 6)", x.frame(20, 6), 0);
        check.fills(x, 'a', 99);
        check.types(x, "z");
        check.due("cell(4, 19)", x.cell(4, 19), 'z');
        check.due("cell(5, 19)", x.cell(5, 19), 0);
    }

    // "out of the frame: REFUSED"

    static void aRowBeforeAndBehindTheFrame(Check check) {
        Twins.refused(check, "cell(-1, 0)", x -> x.cell(-1, 0));
        Twins.refused(check, "cell(6, 0)", x -> x.cell(6, 0));
        EditorCore x = framed(check, 4, 2, "a/b/c/d|");
        check.due("cell(1, 0)", x.cell(1, 0), 'd');
        check.due("cell(2, 0)", x.cell(2, 0), -1);
    }

    static void aColumnBeforeAndBehindTheFrame(Check check) {
        Twins.refused(check, "cell(0, -1)", x -> x.cell(0, -1));
        Twins.refused(check, "cell(0, 20)", x -> x.cell(0, 20));
        EditorCore x = framed(check, 4, 2, "abcde|");
        check.due("cell(0, 3)", x.cell(0, 3), 'd');
        check.due("cell(0, 4)", x.cell(0, 4), -1);
    }

    static void numbersFarOffAreRefused(Check check) {
        EditorCore x = new EditorCore();
        for (int number : new int[] {Integer.MIN_VALUE, -100, -2, 100, Integer.MAX_VALUE}) {
            check.due("cell(0, " + number + ")", x.cell(0, number), -1);
            check.due("cell(" + number + ", 0)", x.cell(number, 0), -1);
        }
    }

    static void refusedItMovesNothing(Check check) {
        EditorCore x = framed(check, 4, 2, "a/b/c/d/e|");
        check.due("cell(2, 0)", x.cell(2, 0), -1);
        check.due("cell(0, 4)", x.cell(0, 4), -1);
        check.due("cell(-1, 0)", x.cell(-1, 0), -1);
        check.due("cell(0, -1)", x.cell(0, -1), -1);
        check.goTo(x, 0);
        check.goTo(x, 2);
        check.due("first row", x.info(10), 0);
    }

    static void itIsNoCommand(Check check) {
        EditorCore x = check.start("|ab/c");
        check.does(x, 10);
        check.sets(x, 2);
        check.due("cell(1, 0)", x.cell(1, 0), 'c');
        check.due("n", x.info(12), 2);
        check.does(x, 10);
        check.due("one kill", Check.kills(x), "ab/");
    }
}
