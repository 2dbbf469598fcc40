/** Promise 3: command, 21, and promise 7: the macro that it does. */
public final class ReplayTest {
    public static void main(String[] args) {
        Check check = new Check();
        nothingToDo(check);
        doesEvents(check);
        stopsAtTheFirstNotDone(check);
        isTheLastCommandOnlyAlone(check);
        notWithinItself(check);
        pendingKeys(check);
        joinsWithWhatWasBefore(check);
        check.end();
    }

    private static void nothingToDo(Check check) {
        EditorCore x = check.start("ab|");
        check.due("argument(3)", x.argument(3), 0);
        check.due("21 at first", x.command(21), -2);
        check.due("n stays", x.info(12), 3);
        check.due("last command", x.info(13), 100);
        check.due("macro(true)", x.macro(true), 0);
        check.due("21 when recorded and empty", x.command(21), -2);
        check.types(x, "c");
        check.due("21 when recorded", x.command(21), -2);
        check.due("macro(false)", x.macro(false), 1);
        check.due("21", x.command(21), 1);
        check.due("done", Check.shown(x), "abcccc|");
        check.due("macro(true)", x.macro(true), 0);
        check.due("macro(false)", x.macro(false), 0);
        check.due("21 when empty again", x.command(21), -2);
    }

    private static void doesEvents(Check check) {
        EditorCore x = check.start("|abcdef");
        check.binds(x, 0, 0);
        check.records(x, "x0");
        check.due("21", x.command(21), 2);
        check.due("once", Check.shown(x), "xaxb|cdef");
        check.due("argument(3)", x.argument(3), 0);
        check.due("21, 3 times", x.command(21), 6);
        check.due("3 times", Check.shown(x), "xaxbxcxdxe|f");
        check.due("n", x.info(12), 1);
        check.due("last command", x.info(13), 0);
        check.binds(x, 9, 21);
        check.due("argument(2)", x.argument(2), 0);
        check.presses(x, 9, 4);
        check.due("by a key", Check.shown(x), "xaxbxcxdxexfx|");
        check.binds(x, 0, 1);
        check.presses(x, 9, 2);
        check.due("keys call what they are bound to now", Check.shown(x), "xaxbxcxdxexfx|x");
        EditorCore once = check.start("|");
        check.due("macro(true)", once.macro(true), 0);
        check.due("argument(4)", once.argument(4), 0);
        check.types(once, "a");
        check.due("macro(false)", once.macro(false), 1);
        check.due("argument(9)", once.argument(9), 0);
        check.due("21, 9 times", once.command(21), 9);
        check.due("n is not part of an event", once.info(0), 13);
    }

    private static void stopsAtTheFirstNotDone(Check check) {
        EditorCore x = check.start("|abcd");
        check.binds(x, 8, 8);
        check.records(x, "8x");
        check.due("argument(9)", x.argument(9), 0);
        check.due("21", x.command(21), 6);
        check.due("stopped", Check.shown(x), "xxxx|");
        check.due("last command", x.info(13), 100);
        EditorCore full = new EditorCore();
        check.records(full, "abcdefghijkl");
        check.due("argument(9)", full.argument(9), 0);
        check.due("21, until full", full.command(21), 88);
        check.due("length", full.info(0), 100);
        check.due("21 when full", full.command(21), 0);
        check.due("last command", full.info(13), 21);
        EditorCore gone = check.start("ab|");
        check.binds(gone, 1, 1);
        check.records(gone, "x1");
        check.due("unbinding", gone.bind(1, -1, -1, -1), 0);
        check.due("argument(3)", gone.argument(3), 0);
        check.due("21 with a key that calls nothing", gone.command(21), 1);
        check.due("stopped", Check.shown(gone), "abx|x");
    }

    private static void isTheLastCommandOnlyAlone(Check check) {
        EditorCore x = check.start("a|b");
        check.binds(x, 8, 8);
        check.records(x, "8");
        check.does(x, 5);
        check.due("argument(6)", x.argument(6), 0);
        check.due("21 without an event done", x.command(21), 0);
        check.due("last command", x.info(13), 21);
        check.due("n", x.info(12), 1);
        check.due("the text", Check.shown(x), "a|");
        EditorCore goal = check.start("abc/d/efg|");
        check.due("bind", goal.bind(1, 1, -1, 0), 0);
        check.records(goal, "1");
        check.presses(goal, 2, -4);
        check.does(goal, 3);
        check.due("21 with a prefix alone", goal.command(21), 1);
        check.due("last command stays", goal.info(13), 3);
        check.due("pending", goal.info(5), 1);
        check.does(goal, 3);
        check.due("the goal stays", Check.shown(goal), "abc|/d/efg");
        EditorCore parts = check.start("ab|");
        check.binds(parts, 8, 8);
        check.does(parts, 1);
        check.records(parts, "8");
        check.types(parts, "c");
        check.due("21", parts.command(21), 0);
        check.types(parts, "d");
        check.due("21 parts the steps of inserts", parts.info(4), 4);
    }

    private static void notWithinItself(Check check) {
        EditorCore x = check.start("ab|");
        check.binds(x, 1, 1);
        check.binds(x, 2, 21);
        check.due("macro(true)", x.macro(true), 0);
        check.presses(x, 2, -2);
        check.presses(x, 1, 0);
        check.due("macro(false)", x.macro(false), 1);
        check.records(x, "c1d");
        check.binds(x, 1, 21);
        check.due("argument(2)", x.argument(2), 0);
        check.due("21 with 21 among its events", x.command(21), 1);
        check.due("stopped there", Check.shown(x), "adc|cb");
        check.due("pending", x.info(5), 0);
        check.due("21 once more", x.command(21), 1);
    }

    private static void pendingKeys(Check check) {
        EditorCore x = check.start("abc|");
        check.due("bind", x.bind(1, 2, -1, 1), 0);
        check.records(x, "12");
        check.due("after recording", Check.shown(x), "ab|c");
        check.due("21", x.command(21), 2);
        check.due("prefixes count", Check.shown(x), "a|bc");
        check.presses(x, 1, 1000);
        check.due("21 with a key pending", x.command(21), 0);
        check.due("1 1 calls nothing", x.info(5), 0);
        check.due("last command", x.info(13), 21);
        check.due("macro(true)", x.macro(true), 0);
        check.presses(x, 1, 1000);
        check.due("macro(false)", x.macro(false), 1);
        check.presses(x, 2, 0);
        check.due("21", x.command(21), 1);
        check.due("leaves a key pending", x.info(5), 1);
        check.presses(x, 2, 0);
        EditorCore called = check.start("abcdef|");
        check.due("bind", called.bind(1, 2, -1, 1), 0);
        check.due("bind", called.bind(3, 4, 5, 21), 0);
        check.records(called, "12");
        check.presses(called, 3, 1000);
        check.presses(called, 4, 1000);
        check.presses(called, 5, 2);
        check.due("the calling keys are not pending", Check.shown(called), "abcd|ef");
    }

    private static void joinsWithWhatWasBefore(Check check) {
        EditorCore x = check.start("|ab/cd");
        check.binds(x, 0, 10);
        check.records(x, "0");
        check.due("21 behind 10", x.command(21), 1);
        check.due("the kill grows", Check.kills(x), "ab/");
        check.due("last command", x.info(13), 10);
        check.does(x, 10);
        check.due("and grows", Check.kills(x), "ab/cd");
    }
}
