/** Promise 3, command 19, and the STEPS: the boundary cases. Behind each sentence of the document stand its cases. */
public final class Promise03UndoBoundaryTest {
    public static void main(String[] args) throws IllegalAccessException {
        Cases.run(Promise03UndoBoundaryTest.class);
    }

    /** A new object with so many steps, each of which typed a character; the last command is 5. */
    private static EditorCore withSteps(Check check, int steps) {
        EditorCore x = new EditorCore();
        for (int i = 0; i < steps; i++) {
            check.types(x, String.valueOf((char) ('a' + i % 26)));
            check.does(x, 5);
        }
        check.due("steps", x.info(4), steps);
        return x;
    }

    // "Every done command with an EDIT that changes the text or would have (8 .. 11, 13, 14, 17, 19, INSERT) makes a STEP"

    static void everyEditIsAStep(Check check) {
        for (int number : new int[] {8, 9, 10, 11, 13, 17, 19}) {
            EditorCore x = check.start("ab|cd");
            check.does(x, 15, 0, 12);
            int steps = x.info(4);
            check.does(x, number);
            check.due("steps behind " + number, x.info(4), steps + 1);
        }
    }

    static void theOthersMakeNone(Check check) {
        for (int number : new int[] {0, 1, 2, 3, 4, 5, 6, 7, 12, 15, 16, 18, 20}) {
            EditorCore x = check.start("ab|cdc");
            check.does(x, 15, 0, 12);
            int steps = x.info(4);
            check.does(x, number);
            check.due("steps behind " + number, x.info(4), steps);
        }
    }

    static void whatIsNotDoneMakesNone(Check check) {
        EditorCore x = new EditorCore();
        for (int number = -1; number <= 22; number++) {
            x.command(number);
        }
        check.due("type(1)", x.type(1), -1);
        check.due("steps", x.info(4), 0);
        check.fills(x, 'a', 100);
        check.does(x, 18, 12);
        int steps = x.info(4);
        check.answers(x, 13, -3);
        check.due("type(98)", x.type('b'), -3);
        check.due("steps", x.info(4), steps);
    }

    static void manyCharactersAtOnceAreOneStep(Check check) {
        EditorCore x = check.start("abcdefgh");
        check.doesTimes(x, 8, 9);
        check.due("steps", x.info(4), 2);
        check.does(x, 19);
        check.due("undone at once", Check.shown(x), "abcdefgh|");
    }

    // "an INSERT adds its characters to that STEP instead"

    static void addedCharactersAreUndoneTogether(Check check) {
        EditorCore x = check.start("ab|cd");
        check.types(x, "xyz");
        check.does(x, 19);
        check.due("three undone", Check.shown(x), "ab|cd");
    }

    static void addingAtTheTwentiethStepKeepsTheOthers(Check check) {
        EditorCore x = withSteps(check, 20);
        check.types(x, "x");
        check.types(x, "y");
        check.due("21 steps", x.info(4), 21);
        for (int i = 0; i < 10; i++) {
            check.does(x, 19);
        }
        check.due("ten undone", x.info(0), 11);
        check.answers(x, 19, -2);
    }

    // "Only the 20 latest STEPS are kept."

    static void ofTenStepsAllAreUndone(Check check) {
        undoesTen(check, 10);
    }

    static void ofElevenStepsTenAreUndone(Check check) {
        undoesTen(check, 11);
    }

    static void ofTwentyStepsTenAreUndone(Check check) {
        undoesTen(check, 20);
    }

    static void ofTwentyOneStepsTenAreUndone(Check check) {
        undoesTen(check, 21);
    }

    static void ofFortyOneStepsTenAreUndone(Check check) {
        undoesTen(check, 41);
    }

    /** With every undoing a step comes and the oldest goes, so the two meet in the middle of the twenty. */
    private static void undoesTen(Check check, int steps) {
        EditorCore x = withSteps(check, steps);
        for (int i = 1; i <= 10; i++) {
            check.does(x, 19);
            check.due("length", x.info(0), steps - i);
        }
        check.answers(x, 19, -2);
        check.due("length", x.info(0), steps - 10);
        check.due("steps", x.info(4), steps + 10);
    }

    static void theOldestKeptIsUndoneRight(Check check) {
        EditorCore x = check.start("abcdefghijklmnopqrstuvwxyz");
        for (int i = 0; i < 20; i++) {
            check.does(x, 9);
        }
        for (int i = 0; i < 10; i++) {
            check.does(x, 19);
        }
        check.due("ten undone", Check.shown(x), "abcdefghijklmnop|");
        check.answers(x, 19, -2);
        check.due("no more", Check.shown(x), "abcdefghijklmnop|");
    }

    static void stepsInThePlaceOfThoseNotKeptAreUndoneRight(Check check) {
        EditorCore x = new EditorCore();
        check.fills(x, 'a', 96);
        check.types(x, "bcde");
        for (int i = 0; i < 24; i++) {
            check.doesTimes(x, i < 20 ? 4 : 2, 9);
        }
        check.due("length", x.info(0), 100 - 80 - 8);
        check.does(x, 19);
        check.due("two come back", x.info(0), 14);
        check.does(x, 19, 19, 19);
        check.due("two each time", x.info(0), 20);
        check.does(x, 19);
        check.due("four come back", x.info(0), 24);
    }

    static void theStepUndoneWhoseRowIsUsedAgain(Check check) {
        EditorCore x = new EditorCore();
        for (int i = 0; i < 10; i++) {
            check.types(x, "ab");
            check.doesTimes(x, 2, 9);
        }
        check.due("steps", x.info(4), 20);
        check.does(x, 19);
        check.due("undone", Check.shown(x), "ab|");
        for (int i = 0; i < 9; i++) {
            check.does(x, 19);
        }
        check.due("ten undone", Check.shown(x), "|");
    }

    // "UNDO: the STEP UNDONE is the latest, or, if the LAST COMMAND was 19, the one before what that one undid."

    static void theLatestFirst(Check check) {
        EditorCore x = withSteps(check, 3);
        check.does(x, 19);
        check.due("the latest", Check.shown(x), "ab|");
        check.does(x, 19);
        check.due("the one before", Check.shown(x), "a|");
        check.does(x, 19);
        check.due("the first", Check.shown(x), "|");
    }

    static void behindAnotherCommandTheUndoingIsUndone(Check check) {
        for (int number : new int[] {0, 1, 2, 3, 4, 5, 6, 7, 15, 18}) {
            EditorCore x = withSteps(check, 3);
            check.does(x, 19, 19, number, 19);
            check.due("the second comes again behind " + number, Check.shown(x).replace("^", ""), "ab|");
            check.does(x, 19);
            check.due("and the third", Check.shown(x).replace("^", ""), "abc|");
            check.does(x, 19);
            check.due("which is then undone", Check.shown(x).replace("^", ""), "ab|");
        }
    }

    static void behindAnInsertTheInsertIsUndone(Check check) {
        EditorCore x = withSteps(check, 3);
        check.does(x, 19);
        check.types(x, "x");
        check.does(x, 19);
        check.due("the insert", Check.shown(x), "ab|");
        check.does(x, 19);
        check.due("and the undoing before it", Check.shown(x), "abc|");
    }

    static void behindWhatWasNotDoneTheOneBefore(Check check) {
        EditorCore x = withSteps(check, 3);
        check.does(x, 19);
        check.answers(x, 8, -2);
        check.answers(x, 22, -1);
        check.due("type(1)", x.type(1), -1);
        check.presses(x, 2, -4);
        check.sets(x, 9);
        x.marker(3, false);
        check.does(x, 19);
        check.due("the second", Check.shown(x), "a|");
    }

    // "It isn't kept or there is none: NOTHING."

    static void withoutAStepNothing(Check check) {
        Twins.unchanged(check, EditorCore::new, "command(19)", x -> x.command(19), -2);
        Twins.unchanged(check, () -> {
            EditorCore x = new EditorCore();
            check.does(x, 15, 18);
            check.sets(x, 3);
            return x;
        }, "command(19)", x -> x.command(19), -2);
    }

    static void beforeTheFirstStepNothing(Check check) {
        Twins.unchanged(check, () -> {
            EditorCore x = withSteps(check, 2);
            check.does(x, 19, 19);
            check.sets(x, 3);
            return x;
        }, "command(19)", x -> x.command(19), -2);
    }

    static void aStepNotKeptIsNothing(Check check) {
        Twins.unchanged(check, () -> {
            EditorCore x = withSteps(check, 25);
            check.does(x, 19, 19, 19, 19, 19, 19, 19, 19, 19, 19);
            check.sets(x, 3);
            return x;
        }, "command(19)", x -> x.command(19), -2);
    }

    static void nothingAndThenAnotherCommandBeginsAnew(Check check) {
        EditorCore x = withSteps(check, 1);
        check.does(x, 19);
        check.answers(x, 19, -2);
        check.answers(x, 19, -2);
        check.due("last command", x.info(13), 19);
        check.does(x, 4, 19);
        check.due("the undoing undone", Check.shown(x), "a|");
    }

    // "What the STEP put in is replaced by what it took out, by an EDIT, POINT going behind it"

    static void whatWasPutInIsTakenOut(Check check) {
        EditorCore x = check.start("ab|cd");
        check.types(x, "xy");
        check.does(x, 4, 19);
        check.due("point is where it was", Check.shown(x), "ab|cd");
    }

    static void whatWasTakenOutIsPutIn(Check check) {
        EditorCore x = check.start("ab|cd/e");
        check.does(x, 10, 4, 19);
        check.due("point is behind it", Check.shown(x), "abcd|/e");
    }

    static void whatWasReplacedComesBack(Check check) {
        EditorCore x = check.start("a|bcd");
        check.does(x, 17, 4, 19);
        check.due("17 undone", Check.shown(x), "ab|cd");
        EditorCore y = check.start("|abbx");
        check.does(y, 15, 0, 11, 0, 0, 11, 13, 14, 5, 19);
        check.due("14 undone", Check.shown(y), "^bb|x");
        check.does(y, 19);
        check.due("13 undone", Check.shown(y), "^|x");
    }

    static void theFullTextComesBack(Check check) {
        EditorCore x = new EditorCore();
        check.fills(x, 'a', 100);
        check.does(x, 18, 11);
        check.due("length", x.info(0), 0);
        check.does(x, 19);
        check.due("length", x.info(0), 100);
        check.due("point", x.info(1), 100);
        check.due("the last", x.character(99), 'a');
    }

    static void killsAndPlacesAreNotUndone(Check check) {
        EditorCore x = check.start("a|bc");
        check.does(x, 15, 5, 11, 19);
        check.due("the kill stays", Check.kills(x), "bc");
        check.due("the mark stays where it is", Check.shown(x), "a^bc|");
    }

    static void markersMoveByTheEdit(Check check) {
        EditorCore x = check.start("ab|cd");
        x.marker(0, true);
        x.marker(1, false);
        check.types(x, "xy");
        check.due("typed", Check.markers(x), "4 2 -2 -2");
        check.does(x, 19);
        check.due("undone", Check.markers(x), "2 2 -2 -2");
        check.does(x, 0, 19);
        check.due("done again", Check.markers(x), "4 2 -2 -2");
    }

    // "this makes a STEP of its own"

    static void everyUndoingIsAStep(Check check) {
        EditorCore x = withSteps(check, 3);
        check.does(x, 19);
        check.due("steps", x.info(4), 4);
        check.does(x, 19, 19);
        check.due("steps", x.info(4), 6);
        check.answers(x, 19, -2);
        check.due("steps", x.info(4), 6);
    }
}
