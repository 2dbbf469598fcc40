/** Promise 3: command, 19, and the steps that it undoes. */
public final class UndoTest {
    public static void main(String[] args) {
        Check check = new Check();
        nothingToUndo(check);
        everyKindOfStep(check);
        undoingUndone(check);
        goingOn(check);
        latestAreKept(check);
        manyTakenOut(check);
        placesMove(check);
        check.end();
    }

    private static void nothingToUndo(Check check) {
        EditorCore x = new EditorCore();
        check.due("19 at first", x.command(19), -2);
        check.due("argument(5)", x.argument(5), 0);
        check.due("19 again", x.command(19), -2);
        check.due("n", x.info(12), 5);
        check.due("last command", x.info(13), -2);
        check.due("steps", x.info(4), 0);
        check.does(x, 0, 15, 18);
        check.due("19 behind commands without a step", x.command(19), -2);
    }

    private static void undoes(Check check, String before, String after, int... numbers) {
        EditorCore x = check.start(before);
        check.does(x, numbers);
        int steps = x.info(4);
        check.doesTimes(x, 4, 19);
        String what = "undoing " + numbers[numbers.length - 1] + " in " + before;
        check.due(what, Check.shown(x), after);
        check.due(what + ", steps", x.info(4), steps + 1);
        check.due(what + ", last command", x.info(13), 19);
        check.due(what + ", n", x.info(12), 1);
    }

    private static void everyKindOfStep(Check check) {
        undoes(check, "abc|de", "abcd|e", 8);
        undoes(check, "abc|de", "abc|de", 9);
        undoes(check, "a|bc/de", "abc|/de", 10);
        undoes(check, "abc|/de", "abc/|de", 10);
        undoes(check, "a|bc/de", "a/|de", 10, 10);
        undoes(check, "ab|cde", "ab^cd|e", 15, 0, 0, 11);
        undoes(check, "ab|cde", "^ab|cde", 15, 4, 11);
        undoes(check, "ab|cde", "ab^|", 10, 13);
        undoes(check, "|abcd", "^b|cd", 15, 0, 11, 15, 0, 11, 13, 14);
        undoes(check, "ab|cd", "abc|d", 17);
        undoes(check, "abc|", "|", 5);
        undoes(check, "abcdefghij|", "abcdefgh|", 5);
        EditorCore kills = check.start("ab|cd");
        check.does(kills, 10, 19);
        check.due("undoing leaves the kills", Check.kills(kills), "cd");
    }

    private static void undoingUndone(Check check) {
        EditorCore x = check.start("abc|");
        check.does(x, 19);
        check.due("undone", Check.shown(x), "|");
        check.due("nothing before it", x.command(19), -2);
        check.due("last command", x.info(13), 19);
        check.does(x, 0, 19);
        check.due("the undoing undone", Check.shown(x), "abc|");
        check.does(x, 19);
        check.due("and the typing before it", Check.shown(x), "|");
        check.due("nothing before it", x.command(19), -2);
        check.due("steps", x.info(4), 4);
        check.does(x, 4, 19);
        check.due("all the way again", Check.shown(x), "abc|");
        check.does(x, 19, 19, 19);
        check.due("back through all", Check.shown(x), "|");
        check.due("steps", x.info(4), 8);
        check.due("nothing before it", x.command(19), -2);
    }

    private static void goingOn(Check check) {
        EditorCore x = check.start("abc|");
        check.doesTimes(x, 2, 9);
        check.types(x, "xy");
        check.does(x, 1, 17);
        check.due("before", Check.shown(x), "ayx|");
        check.does(x, 19);
        check.due("17 undone", Check.shown(x), "axy|");
        check.due("what is not done", x.command(8), -2);
        check.due("what is refused", x.command(-1), -1);
        check.due("a marker", x.marker(0, true), 0);
        check.does(x, 19);
        check.due("the typing undone", Check.shown(x), "a|");
        check.does(x, 19);
        check.due("9 undone", Check.shown(x), "abc|");
        check.does(x, 19);
        check.due("the first typing undone", Check.shown(x), "|");
        check.due("19", x.command(19), -2);
        check.does(x, 15, 19, 19, 19, 19);
        check.due("four undone again", Check.shown(x).replace("^", ""), "ayx|");
        check.does(x, 19);
        check.due("and on: 17", Check.shown(x).replace("^", ""), "axy|");
        check.types(x, "q");
        check.does(x, 19);
        check.due("the latest is the typing", Check.shown(x).replace("^", ""), "axy|");
    }

    private static void latestAreKept(Check check) {
        for (int steps = 1; steps <= 30; steps++) {
            EditorCore x = new EditorCore();
            for (int i = 0; i < steps; i++) {
                check.types(x, "a");
                check.does(x, 5);
            }
            int undone = Math.min(steps, 10);
            for (int i = 1; i <= undone; i++) {
                check.due("19, time " + i + " of " + steps, x.command(19), 0);
            }
            check.due("19 behind them, of " + steps, x.command(19), -2);
            check.due("length", x.info(0), steps - undone);
            check.due("steps", x.info(4), steps + undone);
        }
    }

    private static void manyTakenOut(Check check) {
        EditorCore x = new EditorCore();
        for (int i = 0; i < 50; i++) {
            check.types(x, i % 2 == 0 ? "a" : "b");
        }
        for (int i = 0; i < 45; i++) {
            check.does(x, 9);
        }
        check.due("taken out", Check.shown(x), "ababa|");
        for (int i = 0; i < 10; i++) {
            check.does(x, 19);
        }
        check.due("ten of them undone", Check.shown(x), "abababababababa|");
        check.due("no more are kept", x.command(19), -2);
    }

    private static void placesMove(Check check) {
        EditorCore x = check.start("ab|cd");
        check.due("marker(0, true)", x.marker(0, true), 0);
        check.due("marker(1, false)", x.marker(1, false), 0);
        check.does(x, 15, 0);
        check.due("marker(2, true)", x.marker(2, true), 0);
        check.does(x, 0);
        check.due("marker(3, false)", x.marker(3, false), 0);
        check.goTo(x, 2);
        check.does(x, 10);
        check.due("all at the place", Check.markers(x), "2 2 2 2");
        check.does(x, 19);
        check.due("those that follow go behind", Check.markers(x), "4 2 4 2");
        check.due("the mark does not", Check.shown(x), "ab^cd|");
    }
}
