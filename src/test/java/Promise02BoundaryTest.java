/** Promise 2, type: the boundary cases. Behind each sentence of the document stand its cases. */
public final class Promise02BoundaryTest {
    public static void main(String[] args) throws IllegalAccessException {
        Cases.run(Promise02BoundaryTest.class);
    }

    private static boolean isCode(int code) {
        return code >= 'a' && code <= 'z' || code == 32 || code == 10;
    }

    // "puts the character (its code: a letter, 32 or 10) in"

    static void everyLetterBlankAndEndOfLineIsTaken(Check check) {
        EditorCore x = new EditorCore();
        for (int code = 0; code <= 127; code++) {
            if (isCode(code)) {
                check.due("type(" + code + ")", x.type(code), 0);
                check.due("the character", x.character(x.info(0) - 1), code);
            }
        }
        check.due("length", x.info(0), 28);
    }

    // "Another code: REFUSED"

    static void everyOtherCodeIsRefused(Check check) {
        EditorCore x = new EditorCore();
        for (int code = -140; code <= 140; code++) {
            if (!isCode(code)) {
                check.due("type(" + code + ")", x.type(code), -1);
            }
        }
        check.due("length", x.info(0), 0);
    }

    static void codesFarOffAreRefused(Check check) {
        EditorCore x = new EditorCore();
        int[] codes = {Integer.MIN_VALUE, Integer.MIN_VALUE + 97, -256 + 97, 256 + 10, 256 + 97, 65536 + 32, 65536 + 97,
            Integer.MAX_VALUE};
        for (int code : codes) {
            check.due("type(" + code + ")", x.type(code), -1);
        }
        check.due("length", x.info(0), 0);
    }

    static void codesBesideTheLettersChangeNothing(Check check) {
        Twins.refused(check, "type(96)", x -> x.type(96));
        Twins.refused(check, "type(123)", x -> x.type(123));
    }

    static void codesBesideBlankAndEndOfLineChangeNothing(Check check) {
        Twins.refused(check, "type(9)", x -> x.type(9));
        Twins.refused(check, "type(33)", x -> x.type(33));
    }

    // "more than 100 characters: FULL"

    static void oneByOneUpToHundred(Check check) {
        EditorCore x = new EditorCore();
        for (int i = 0; i < 100; i++) {
            check.types(x, "a");
        }
        check.due("the 101st", x.type('b'), -3);
        check.due("length", x.info(0), 100);
        check.due("the last", x.character(99), 'a');
        check.due("point", x.info(1), 100);
    }

    static void exactlyHundredByTheArgument(Check check) {
        EditorCore x = new EditorCore();
        check.fills(x, 'a', 91);
        check.sets(x, 9);
        check.due("type(98)", x.type('b'), 0);
        check.due("length", x.info(0), 100);
        check.due("the last", x.character(99), 'b');
    }

    static void oneMoreThanHundredByTheArgument(Check check) {
        Twins.unchanged(check, () -> {
            EditorCore x = new EditorCore();
            check.fills(x, 'a', 92);
            check.sets(x, 9);
            return x;
        }, "type(98)", x -> x.type('b'), -3);
    }

    static void fullPutsInNoPart(Check check) {
        EditorCore x = new EditorCore();
        check.fills(x, 'a', 99);
        check.sets(x, 2);
        check.due("type(98)", x.type('b'), -3);
        check.due("length", x.info(0), 99);
        check.due("n stays", x.info(12), 2);
        check.sets(x, 1);
        check.due("type(98)", x.type('b'), 0);
    }

    static void fullChangesNothing(Check check) {
        Twins.unchanged(check, () -> {
            EditorCore x = new EditorCore();
            check.fills(x, 'a', 100);
            check.does(x, 4, 15, 0);
            x.marker(1, true);
            return x;
        }, "type(98)", x -> x.type('b'), -3);
    }

    static void fullBehindAnInsertChangesNothing(Check check) {
        Twins.unchanged(check, () -> {
            EditorCore x = new EditorCore();
            check.fills(x, 'a', 99);
            check.does(x, 5);
            check.types(x, "b");
            return x;
        }, "type(98)", x -> x.type('b'), -3);
    }

    static void roomComesBackWhenSomeIsTakenOut(Check check) {
        EditorCore x = new EditorCore();
        check.fills(x, 'a', 100);
        check.due("type(98)", x.type('b'), -3);
        check.does(x, 9);
        check.due("type(98)", x.type('b'), 0);
        check.due("type(98)", x.type('b'), -3);
    }

    // "Numbers are tested first."

    static void refusedBeforeFull(Check check) {
        EditorCore x = new EditorCore();
        check.fills(x, 'a', 100);
        check.due("type(33)", x.type(33), -1);
        check.due("type(98)", x.type('b'), -3);
    }

    // "in at POINT n times, POINT behind them"

    static void onceAndNineTimes(Check check) {
        EditorCore x = check.start("a|b");
        check.sets(x, 1);
        check.types(x, "c");
        check.due("once", Check.shown(x), "ac|b");
        check.sets(x, 9);
        check.types(x, "d");
        check.due("nine times", Check.shown(x), "acddddddddd|b");
    }

    static void atTheBeginningAndAtTheEnd(Check check) {
        EditorCore x = check.start("|ab");
        check.types(x, "c");
        check.due("at the beginning", Check.shown(x), "c|ab");
        check.does(x, 5);
        check.types(x, "d");
        check.due("at the end", Check.shown(x), "cabd|");
    }

    // "if the LAST COMMAND is INSERT and the latest STEP has put in at most 7 characters"

    static void aStepOfSevenIsAddedTo(Check check) {
        EditorCore x = check.start("abcdefg");
        check.types(x, "h");
        check.due("steps", x.info(4), 1);
        check.does(x, 19);
        check.due("all undone", Check.shown(x), "|");
    }

    static void aStepOfEightIsNotAddedTo(Check check) {
        EditorCore x = check.start("abcdefgh");
        check.types(x, "i");
        check.due("steps", x.info(4), 2);
        check.does(x, 19);
        check.due("one undone", Check.shown(x), "abcdefgh|");
    }

    static void nineAreAddedToSeven(Check check) {
        EditorCore x = check.start("abcdefg");
        check.sets(x, 9);
        check.types(x, "h");
        check.due("steps", x.info(4), 1);
        check.types(x, "i");
        check.due("and no more to 16", x.info(4), 2);
        check.does(x, 19);
        check.due("one undone", x.info(0), 16);
        check.does(x, 19);
        check.due("16 undone", x.info(0), 0);
    }

    static void sevenAtOnceAreAddedTo(Check check) {
        EditorCore x = new EditorCore();
        check.sets(x, 7);
        check.types(x, "ab");
        check.due("steps", x.info(4), 1);
    }

    static void eightAtOnceAreNotAddedTo(Check check) {
        EditorCore x = new EditorCore();
        check.sets(x, 8);
        check.types(x, "ab");
        check.due("steps", x.info(4), 2);
    }

    static void noneAreAddedBehindAnotherCommand(Check check) {
        for (int number : new int[] {0, 1, 2, 3, 4, 5, 6, 7, 15, 18}) {
            EditorCore x = check.start("a");
            check.does(x, number);
            check.types(x, "b");
            check.due("steps with " + number + " between", x.info(4), 2);
        }
    }

    static void noneAreAddedToTheStepOfAnotherCommand(Check check) {
        for (int number : new int[] {8, 9, 10, 17, 19}) {
            EditorCore x = check.start("a|b");
            check.does(x, number);
            int steps = x.info(4);
            check.types(x, "c");
            check.due("steps behind " + number, x.info(4), steps + 1);
        }
    }

    static void someAreAddedBehindWhatWasNotDone(Check check) {
        EditorCore x = check.start("a");
        check.answers(x, 8, -2);
        check.answers(x, 22, -1);
        check.due("type(33)", x.type(33), -1);
        check.presses(x, 3, -4);
        check.sets(x, 2);
        x.marker(0, false);
        x.frame(5, 5);
        check.types(x, "b");
        check.due("steps", x.info(4), 1);
    }

    // "INSERT being one too", "which a done command sets back to 1"

    static void isTheLastCommandWhenDone(Check check) {
        EditorCore x = check.start("|a");
        check.sets(x, 5);
        check.due("type(33)", x.type(33), -1);
        check.due("last command", x.info(13), 1);
        check.due("n", x.info(12), 5);
        check.types(x, "b");
        check.due("last command", x.info(13), 100);
        check.due("n", x.info(12), 1);
    }

    static void pendingKeysStay(Check check) {
        EditorCore x = new EditorCore();
        check.binds(x, 1, 2, -1, 4, 0);
        check.presses(x, 1, 1000);
        check.types(x, "ab");
        check.due("pending", x.info(5), 1);
        check.presses(x, 2, 0);
        check.due("the keys were 1 2", Check.shown(x), "|ab");
    }
}
