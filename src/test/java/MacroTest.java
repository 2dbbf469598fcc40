/** Promise 7: macro; what it does is in ReplayTest. */
public final class MacroTest {
    public static void main(String[] args) {
        Check check = new Check();
        beginsAndEnds(check);
        whatIsAnEvent(check);
        twelve(check);
        orderAndKinds(check);
        check.end();
    }

    private static void beginsAndEnds(Check check) {
        EditorCore x = check.start("ab|");
        check.due("macro(false) at first", x.macro(false), -1);
        check.due("macro(true)", x.macro(true), 0);
        check.due("recorded", x.info(7), 1);
        check.types(x, "c");
        check.due("macro(true) again", x.macro(true), -1);
        check.due("nothing is lost by that", x.info(6), 1);
        check.due("macro(false)", x.macro(false), 1);
        check.due("recorded", x.info(7), 0);
        check.due("macro(false) again", x.macro(false), -1);
        check.due("events", x.info(6), 1);
        check.types(x, "d");
        check.due("what comes later is none", x.info(6), 1);
        check.due("macro(true)", x.macro(true), 0);
        check.due("it becomes empty", x.info(6), 0);
        check.due("macro(false)", x.macro(false), 0);
        check.due("macro is no command", x.info(13), 100);
    }

    private static void whatIsAnEvent(Check check) {
        EditorCore x = check.start("ab|");
        check.due("bind", x.bind(1, 2, -1, 8), 0);
        check.due("bind", x.bind(3, -1, -1, 1), 0);
        check.due("macro(true)", x.macro(true), 0);
        check.due("type(33)", x.type(33), -1);
        check.due("press(16)", x.press(16), -1);
        check.due("press(9)", x.press(9), -4);
        check.due("argument(2)", x.argument(2), 0);
        check.does(x, 4, 5);
        check.due("marker", x.marker(0, true), 0);
        check.due("none of these", x.info(6), 0);
        check.due("press(1)", x.press(1), 1000);
        check.due("a prefix is one", x.info(6), 1);
        check.due("press(2)", x.press(2), -2);
        check.due("a command with nothing to do is none", x.info(6), 1);
        check.due("press(3)", x.press(3), 0);
        check.types(x, "c");
        check.due("keys and characters are", x.info(6), 3);
        check.due("macro(false)", x.macro(false), 3);
        EditorCore full = new EditorCore();
        for (int i = 0; i < 11; i++) {
            full.argument(9);
            full.type(97);
        }
        check.due("macro(true)", full.macro(true), 0);
        check.types(full, "b");
        check.due("type(98) when full", full.type(98), -3);
        check.due("macro(false)", full.macro(false), 1);
    }

    private static void twelve(Check check) {
        EditorCore x = new EditorCore();
        check.due("macro(true)", x.macro(true), 0);
        check.types(x, "abcdefghijk");
        check.due("eleven", x.info(6), 11);
        check.types(x, "l");
        check.due("twelve", x.info(6), 12);
        check.types(x, "mn");
        check.due("the rest is lost", x.info(6), 12);
        check.due("macro(false)", x.macro(false), 12);
        check.due("21", x.command(21), 12);
        check.due("the text", Check.shown(x), "abcdefghijklmnabcdefghijkl|");
    }

    private static void orderAndKinds(Check check) {
        EditorCore x = new EditorCore();
        check.due("bind", x.bind(10, -1, -1, 1), 0);
        check.due("macro(true)", x.macro(true), 0);
        check.types(x, "/a");
        check.due("press(10)", x.press(10), 0);
        check.types(x, " ");
        check.due("macro(false)", x.macro(false), 4);
        check.due("after recording", Check.shown(x), "/ |a");
        check.due("21", x.command(21), 4);
        check.due("a typed 10 is not the key 10", Check.shown(x), "/ / |aa");
    }
}
