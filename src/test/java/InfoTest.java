/** Promise 14: info; rows (9 .. 11) are in CellTest too. */
public final class InfoTest {
    public static void main(String[] args) {
        Check check = new Check();
        EditorCore x = check.start("ab cd/ef|");
        is(check, x, 8, 8, -2, 0, 1, 0, 0, 0, 0, 2, 0, 1, 1, 100);
        check.does(x, 15, 4);
        is(check, x, 8, 6, 8, 0, 1, 0, 0, 0, 0, 2, 0, 1, 1, 4);
        check.does(x, 11);
        is(check, x, 6, 6, 6, 1, 2, 0, 0, 0, 0, 2, 0, 1, 1, 11);
        check.due("bind", x.bind(1, 2, 3, 5), 0);
        check.due("press(1)", x.press(1), 1000);
        check.due("press(2)", x.press(2), 1000);
        check.due("argument(7)", x.argument(7), 0);
        is(check, x, 6, 6, 6, 1, 2, 2, 0, 0, 1, 2, 0, 1, 7, 11);
        check.due("macro(true)", x.macro(true), 0);
        check.due("press(3)", x.press(3), 0);
        is(check, x, 6, 6, 6, 1, 2, 0, 1, 1, 1, 2, 0, 1, 1, 5);
        check.types(x, "x");
        check.due("macro(false)", x.macro(false), 2);
        check.does(x, 19);
        is(check, x, 6, 6, 6, 1, 4, 0, 2, 0, 1, 2, 0, 1, 1, 19);
        for (int what : new int[] {Integer.MIN_VALUE, -2, -1, 14, 15, 100, Integer.MAX_VALUE}) {
            check.due("info(" + what + ")", x.info(what), -1);
        }
        asksChangeNothing(check);
        check.end();
    }

    private static void is(Check check, EditorCore x, int... due) {
        for (int what = 0; what < due.length; what++) {
            check.due("info(" + what + ")", x.info(what), due[what]);
        }
    }

    private static void asksChangeNothing(Check check) {
        EditorCore x = check.start("|ab/cd");
        check.does(x, 10);
        for (int what = -1; what <= 14; what++) {
            x.info(what);
        }
        check.due("character(0)", x.character(0), 10);
        check.due("killed(0, 0)", x.killed(0, 0), 97);
        check.due("markerAt(0)", x.markerAt(0), -2);
        check.due("cell(0, 0)", x.cell(0, 0), 0);
        check.does(x, 10);
        check.due("asking is no command", Check.kills(x), "ab/");
    }
}
