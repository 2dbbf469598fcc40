/** Promise 9: frame. */
public final class FrameTest {
    public static void main(String[] args) {
        Check check = new Check();
        limits(check);
        setsTheFirstRowBack(check);
        check.end();
    }

    private static void limits(Check check) {
        EditorCore x = new EditorCore();
        for (int columns = 4; columns <= 20; columns++) {
            for (int rows = 2; rows <= 6; rows++) {
                EditorCore y = new EditorCore();
                check.due("frame(" + columns + ", " + rows + ")", y.frame(columns, rows), 0);
                check.due("the last cell", y.cell(rows - 1, columns - 1), 0);
                check.due("a row more", y.cell(rows, columns - 1), -1);
                check.due("a column more", y.cell(rows - 1, columns), -1);
            }
        }
        int[] wrong = {Integer.MIN_VALUE, -4, 0, 1, 21, 100, Integer.MAX_VALUE};
        for (int number : wrong) {
            check.due("frame(" + number + ", 4)", x.frame(number, 4), -1);
            check.due("frame(10, " + number + ")", x.frame(10, number), -1);
        }
        check.due("frame(3, 2)", x.frame(3, 2), -1);
        check.due("frame(4, 7)", x.frame(4, 7), -1);
        check.due("frame(21, 6)", x.frame(21, 6), -1);
        check.due("the frame stays", x.cell(3, 9), 0);
        check.due("the frame stays", x.cell(4, 9), -1);
        check.due("the frame stays", x.cell(3, 10), -1);
        check.due("frame is no command", x.info(13), -2);
    }

    private static void setsTheFirstRowBack(Check check) {
        EditorCore x = check.start("a/b/c/d/e/f|");
        check.due("first row", x.info(10), 2);
        check.goTo(x, 6);
        check.due("first row stays", x.info(10), 2);
        check.due("frame(3, 4)", x.frame(3, 4), -1);
        check.due("refused: first row stays", x.info(10), 2);
        check.due("frame(10, 4)", x.frame(10, 4), 0);
        check.due("first row is 0", x.info(10), 0);
        check.due("frame(10, 2)", x.frame(10, 2), 0);
        check.due("as little as point asks for", x.info(10), 2);
        check.due("frame(4, 6)", x.frame(4, 6), 0);
        check.due("the cells", Check.cells(x, 4, 6), "a.../b.../c.../d.../e.../f...");
    }
}
