/** Promise 2: type. */
public final class TypeTest {
    public static void main(String[] args) {
        Check check = new Check();
        codes(check);
        putsInAtPoint(check);
        fullAtHundred(check);
        stepsOfInserts(check);
        check.end();
    }

    private static void codes(Check check) {
        int[] wrong = {Integer.MIN_VALUE, -10, -1, 0, 9, 11, 13, 31, 33, 48, 65, 90, 96, 123, 127, 256 + 97, 65536 + 97,
            Integer.MAX_VALUE};
        EditorCore x = new EditorCore();
        check.due("argument(3)", x.argument(3), 0);
        for (int code : wrong) {
            check.due("type(" + code + ")", x.type(code), -1);
        }
        check.due("length", x.info(0), 0);
        check.due("n stays when refused", x.info(12), 3);
        check.due("last command", x.info(13), -2);
        check.due("steps", x.info(4), 0);
        check.due("argument(1)", x.argument(1), 0);
        for (int code = 97; code <= 122; code++) {
            check.due("type(" + code + ")", x.type(code), 0);
        }
        check.due("type(32)", x.type(32), 0);
        check.due("type(10)", x.type(10), 0);
        check.due("the text", Check.shown(x), "abcdefghijklmnopqrstuvwxyz /|");
        check.due("last command", x.info(13), 100);
    }

    private static void putsInAtPoint(Check check) {
        EditorCore x = check.start("ab|cd");
        check.due("argument(3)", x.argument(3), 0);
        check.types(x, "x");
        check.due("three typed", Check.shown(x), "abxxx|cd");
        check.due("n is set back", x.info(12), 1);
        check.types(x, "y");
        check.due("one typed", Check.shown(x), "abxxxy|cd");
        check.goTo(x, 0);
        check.types(x, "/");
        check.due("at the beginning", Check.shown(x), "/|abxxxycd");
    }

    private static void fullAtHundred(Check check) {
        EditorCore x = new EditorCore();
        for (int i = 0; i < 10; i++) {
            check.due("argument(9)", x.argument(9), 0);
            check.types(x, "a");
        }
        check.due("argument(8)", x.argument(8), 0);
        check.types(x, "b");
        check.due("argument(3)", x.argument(3), 0);
        check.due("type(99) of 101", x.type(99), -3);
        check.due("length", x.info(0), 98);
        check.due("n stays when full", x.info(12), 3);
        check.due("argument(2)", x.argument(2), 0);
        check.due("type(99) of 100", x.type(99), 0);
        check.due("length", x.info(0), 100);
        check.due("character(99)", x.character(99), 99);
        check.due("type(99) when full", x.type(99), -3);
        check.due("type(33) when full", x.type(33), -1);
        check.due("length", x.info(0), 100);
        check.due("point", x.info(1), 100);
    }

    private static void stepsOfInserts(Check check) {
        EditorCore x = check.start("abcdefg");
        check.due("steps after 7", x.info(4), 1);
        check.types(x, "h");
        check.due("steps after 8", x.info(4), 1);
        check.types(x, "i");
        check.due("steps after 9", x.info(4), 2);
        check.due("argument(6)", x.argument(6), 0);
        check.types(x, "j");
        check.due("7 in the second step", x.info(4), 2);
        check.due("argument(9)", x.argument(9), 0);
        check.types(x, "k");
        check.due("16 in the second step", x.info(4), 2);
        check.types(x, "l");
        check.due("a third step", x.info(4), 3);
        check.does(x, 5);
        check.types(x, "m");
        check.due("another command parts the steps", x.info(4), 4);
        check.due("command(8) with nothing to do", x.command(8), -2);
        check.due("type(33)", x.type(33), -1);
        check.types(x, "n");
        check.due("what was not done parts nothing", x.info(4), 4);
    }
}
