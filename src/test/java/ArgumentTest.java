/** Promise 4: argument. */
public final class ArgumentTest {
    public static void main(String[] args) {
        Check check = new Check();
        EditorCore x = new EditorCore();
        for (int n = 1; n <= 9; n++) {
            check.due("argument(" + n + ")", x.argument(n), 0);
            check.due("n", x.info(12), n);
        }
        for (int n : new int[] {Integer.MIN_VALUE, -9, -1, 0, 10, 11, 100, Integer.MAX_VALUE}) {
            check.due("argument(" + n + ")", x.argument(n), -1);
            check.due("n stays", x.info(12), 9);
        }
        check.due("last command", x.info(13), -2);
        setBackByWhatIsDone(check);
        staysOtherwise(check);
        isNoCommand(check);
        check.end();
    }

    private static void setBackByWhatIsDone(Check check) {
        int[] commands = {0, 1, 2, 3, 4, 5, 6, 7, 8, 9, 10, 12, 11, 13, 14, 15, 16, 17, 18, 19, 20};
        for (int number : commands) {
            EditorCore x = check.start("a bc|/d ef/g");
            check.does(x, 15, 0, 12, 4, 13);
            if (number != 14) {
                check.goTo(x, 1);
            }
            check.doesTimes(x, 2, number);
            check.due("n behind " + number, x.info(12), 1);
            check.due("last command", x.info(13), number);
        }
        EditorCore x = new EditorCore();
        check.due("argument(5)", x.argument(5), 0);
        check.types(x, "a");
        check.due("n behind a typed character", x.info(12), 1);
        check.due("length", x.info(0), 5);
    }

    private static void staysOtherwise(Check check) {
        EditorCore x = check.start("abc|");
        check.due("bind", x.bind(1, 2, -1, 1), 0);
        check.due("argument(2)", x.argument(2), 0);
        check.due("command(8)", x.command(8), -2);
        check.due("command(22)", x.command(22), -1);
        check.due("type(1)", x.type(1), -1);
        check.due("press(16)", x.press(16), -1);
        check.due("press(5)", x.press(5), -4);
        check.due("marker", x.marker(0, true), 0);
        check.due("frame", x.frame(5, 5), 0);
        check.due("macro", x.macro(true), 0);
        check.due("press(1)", x.press(1), 1000);
        check.due("n stays", x.info(12), 2);
        check.due("press(2)", x.press(2), 0);
        check.due("n was used", Check.shown(x), "a|bc");
        check.due("n is set back", x.info(12), 1);
    }

    private static void isNoCommand(Check check) {
        EditorCore x = check.start("|ab/cd");
        check.does(x, 10);
        check.due("argument(2)", x.argument(2), 0);
        check.does(x, 10);
        check.due("argument does not part kills", Check.kills(x), "ab/");
    }
}
