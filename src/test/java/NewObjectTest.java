/** Promise 1: a new object. */
public final class NewObjectTest {
    private static final int[] DUE = {0, 0, -2, 0, 0, 0, 0, 0, 0, 1, 0, 0, 1, -2};

    public static void main(String[] args) {
        Check check = new Check();
        EditorCore x = new EditorCore();
        for (int what = 0; what < DUE.length; what++) {
            check.due("info(" + what + ")", x.info(what), DUE[what]);
        }
        check.due("the text", Check.shown(x), "|");
        check.due("character(0)", x.character(0), -1);
        check.due("the markers", Check.markers(x), "-2 -2 -2 -2");
        check.due("killed(0, 0)", x.killed(0, 0), -1);
        frameOfTenAndFour(check, x);
        noBindings(check, x);
        objectsAreApart(check);
        check.end();
    }

    private static void frameOfTenAndFour(Check check, EditorCore x) {
        check.due("the cells", Check.cells(x, 10, 4), "........../........../........../..........");
        check.due("cell(3, 9)", x.cell(3, 9), 0);
        check.due("cell(4, 0)", x.cell(4, 0), -1);
        check.due("cell(0, 10)", x.cell(0, 10), -1);
    }

    private static void noBindings(Check check, EditorCore x) {
        for (int key = 0; key <= 15; key++) {
            check.due("press(" + key + ")", x.press(key), -4);
        }
    }

    private static void objectsAreApart(Check check) {
        EditorCore one = check.start("abc");
        EditorCore other = new EditorCore();
        check.due("bind", one.bind(1, -1, -1, 4), 0);
        check.due("another object's text", Check.shown(other), "|");
        check.due("another object's bindings", other.info(8), 0);
        check.due("press(1) there", other.press(1), -4);
    }
}
