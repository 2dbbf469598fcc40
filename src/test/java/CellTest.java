/** Promise 13: cell, with the rows that info(9) .. info(11) tell. */
public final class CellTest {
    public static void main(String[] args) {
        Check check = new Check();
        outOfTheFrame(check);
        rows(check);
        pointsRow(check);
        scrolling(check);
        movedOnlyWhenShown(check);
        refusedMovesNothing(check);
        shrinking(check);
        check.end();
    }

    private static EditorCore framed(Check check, int columns, int rows, String letters) {
        EditorCore x = check.start(letters);
        check.due("frame", x.frame(columns, rows), 0);
        return x;
    }

    private static void outOfTheFrame(Check check) {
        EditorCore x = framed(check, 4, 2, "ab|");
        for (int number : new int[] {Integer.MIN_VALUE, -1, 4, 20, Integer.MAX_VALUE}) {
            check.due("cell(0, " + number + ")", x.cell(0, number), -1);
            check.due("cell(" + number + ", 0)", x.cell(number, 0), -1);
        }
        check.due("cell(2, 0)", x.cell(2, 0), -1);
        check.due("cell(1, 3)", x.cell(1, 3), 0);
    }

    private static void rows(Check check) {
        EditorCore x = framed(check, 4, 6, "abc/|");
        check.due("a line shorter than a row", Check.cells(x, 4, 6), "abc./..../..../..../..../....");
        check.due("rows", x.info(9), 2);
        x = framed(check, 4, 6, "abcd/e|");
        check.due("a line as long as a row", Check.cells(x, 4, 6), "abcd/..../e.../..../..../....");
        check.due("rows", x.info(9), 3);
        x = framed(check, 4, 6, "abcdefgh|");
        check.due("a line as long as two rows", Check.cells(x, 4, 6), "abcd/efgh/..../..../..../....");
        check.due("rows", x.info(9), 3);
        x = framed(check, 4, 6, "//ab de//f|");
        check.due("empty lines and blanks", Check.cells(x, 4, 6), "..../..../ab d/e.../..../f...");
        check.due("rows", x.info(9), 6);
        x = framed(check, 5, 2, "abcdef|");
        check.due("five columns", Check.cells(x, 5, 2), "abcde/f....");
        check.due("no row of its own for one more", x.info(9), 2);
        x = framed(check, 20, 6, "abcdefghijklmnopqrst/|");
        check.due("cell(0, 19)", x.cell(0, 19), 't');
        check.due("rows", x.info(9), 3);
        check.due("point's row", x.info(11), 2);
    }

    private static void pointsRow(Check check) {
        EditorCore x = framed(check, 4, 6, "abcd/efghi/|");
        int[] due = {0, 0, 0, 0, 1, 2, 2, 2, 2, 3, 3, 4};
        for (int place = 0; place < due.length; place++) {
            check.goTo(x, place);
            check.due("point's row at " + place, x.info(11), due[place]);
        }
        check.due("rows", x.info(9), 5);
    }

    private static void scrolling(Check check) {
        EditorCore x = framed(check, 4, 2, "a/b/c/d/e|");
        check.due("down to point", Check.cells(x, 4, 2), "d.../e...");
        check.due("first row", x.info(10), 3);
        check.does(x, 3);
        check.due("still in the frame", Check.cells(x, 4, 2), "d.../e...");
        check.does(x, 3);
        check.due("up by one", Check.cells(x, 4, 2), "c.../d...");
        check.does(x, 2);
        check.due("it stays so", Check.cells(x, 4, 2), "c.../d...");
        check.does(x, 2);
        check.due("down by one", Check.cells(x, 4, 2), "d.../e...");
        check.doesTimes(x, 9, 3);
        check.due("up to the top", Check.cells(x, 4, 2), "a.../b...");
        check.due("first row", x.info(10), 0);
        check.due("first row tells it too", movedBy(check, x), 2);
        check.due("what info moved stays", Check.cells(x, 4, 2), "c.../d...");
    }

    /** Moves point to the fourth row and back to the third, with info(10) asked in between. */
    private static int movedBy(Check check, EditorCore x) {
        check.doesTimes(x, 3, 2);
        int first = x.info(10);
        check.does(x, 3);
        return first;
    }

    private static void movedOnlyWhenShown(Check check) {
        EditorCore x = framed(check, 4, 2, "a/b/c/d/e|");
        check.doesTimes(x, 4, 3);
        check.due("point was below, but nothing was shown", x.info(10), 0);
        check.doesTimes(x, 4, 2);
        check.due("info(9)", x.info(9), 5);
        check.due("info(11)", x.info(11), 4);
        check.doesTimes(x, 3, 3);
        check.due("info(9) and info(11) move nothing", x.info(10), 0);
    }

    private static void refusedMovesNothing(Check check) {
        EditorCore x = framed(check, 4, 2, "a/b/c/d/e|");
        check.due("cell(2, 0)", x.cell(2, 0), -1);
        check.due("cell(0, 4)", x.cell(0, 4), -1);
        check.due("cell(-1, 0)", x.cell(-1, 0), -1);
        check.goTo(x, 2);
        check.due("first row", x.info(10), 0);
    }

    private static void shrinking(Check check) {
        EditorCore x = framed(check, 4, 3, "a/b/c/d/e|");
        check.due("first row", x.info(10), 2);
        check.doesTimes(x, 6, 9);
        check.due("the text", Check.shown(x), "a/b|");
        check.due("up to point's row", x.info(10), 1);
        check.due("the cells", Check.cells(x, 4, 3), "b.../..../....");
        check.doesTimes(x, 9, 9);
        check.due("an empty text", Check.cells(x, 4, 3), "..../..../....");
        check.due("first row", x.info(10), 0);
    }
}
