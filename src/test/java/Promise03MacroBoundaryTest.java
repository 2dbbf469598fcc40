/** Promise 3, command 21: the boundary cases. Behind each sentence of the document stand its cases. */
public final class Promise03MacroBoundaryTest {
    public static void main(String[] args) throws IllegalAccessException {
        Cases.run(Promise03MacroBoundaryTest.class);
    }

    // "21: it's recorded or empty, or 21 is under way already: NOTHING."

    static void emptyIsNothing(Check check) {
        Twins.unchanged(check, () -> {
            EditorCore x = check.start("a|b");
            check.sets(x, 4);
            return x;
        }, "command(21)", x -> x.command(21), -2);
    }

    static void recordedAnewAndEmptyIsNothing(Check check) {
        Twins.unchanged(check, () -> {
            EditorCore x = check.start("a|b");
            check.records(x, "cd");
            check.records(x, "");
            check.sets(x, 4);
            return x;
        }, "command(21)", x -> x.command(21), -2);
    }

    static void recordedIsNothing(Check check) {
        Twins.unchanged(check, () -> {
            EditorCore x = check.start("a|b");
            check.due("macro(true)", x.macro(true), 0);
            check.types(x, "cd");
            check.sets(x, 4);
            return x;
        }, "command(21)", x -> x.command(21), -2);
    }

    static void recordedAndCalledByAKeyIsNoEvent(Check check) {
        EditorCore x = check.start("a|b");
        check.binds(x, 1, 21);
        check.due("macro(true)", x.macro(true), 0);
        check.types(x, "c");
        check.presses(x, 1, -2);
        check.due("macro(false)", x.macro(false), 1);
    }

    static void underWayIsNothing(Check check) {
        EditorCore x = check.start("ab|");
        check.binds(x, 1, 4);
        check.records(x, "c1d");
        check.binds(x, 1, 21);
        check.does(x, 5);
        check.answers(x, 21, 1);
        check.due("stopped at 21", Check.shown(x), "dabcc|");
        check.due("last command", x.info(13), 100);
    }

    static void underWayAsTheFirstEventIsNothing(Check check) {
        EditorCore x = check.start("ab|");
        check.binds(x, 1, 4);
        check.records(x, "1c");
        check.binds(x, 1, 21);
        check.sets(x, 5);
        check.answers(x, 21, 0);
        check.due("nothing done", Check.shown(x), "c|ab");
        check.due("last command", x.info(13), 21);
        check.due("n", x.info(12), 1);
    }

    static void itCanBeDoneAgainAfterwards(Check check) {
        EditorCore x = check.start("ab|");
        check.binds(x, 1, 4);
        check.records(x, "c1");
        check.binds(x, 1, 21);
        check.answers(x, 21, 1);
        check.answers(x, 21, 1);
        check.presses(x, 1, 1);
        check.due("done three times", Check.shown(x), "ccc|abc");
    }

    // "Else n is set back to 1, and n (as it was) times over, the EVENTS are pressed and typed in order"

    static void onceAndNineTimes(Check check) {
        EditorCore x = new EditorCore();
        check.records(x, "ab");
        check.answers(x, 21, 2);
        check.due("once", Check.shown(x), "abab|");
        check.sets(x, 9);
        check.answers(x, 21, 18);
        check.due("nine times", x.info(0), 22);
        check.due("n", x.info(12), 1);
    }

    static void twelveEventsNineTimes(Check check) {
        EditorCore x = check.start("a|");
        check.binds(x, 1, 4);
        check.records(x, "111111111111");
        check.sets(x, 9);
        check.answers(x, 21, 108);
    }

    static void theEventsHaveAnArgumentOfOne(Check check) {
        EditorCore x = check.start("abcdefgh|");
        check.binds(x, 1, 1);
        check.records(x, "1");
        check.sets(x, 3);
        check.answers(x, 21, 3);
        check.due("three places back, not nine", x.info(1), 4);
    }

    static void keysCallWhatTheyAreBoundToNow(Check check) {
        EditorCore x = check.start("ab|");
        check.binds(x, 1, 4);
        check.records(x, "1");
        check.binds(x, 1, 5);
        check.answers(x, 21, 1);
        check.due("5 was done", Check.shown(x), "ab|");
    }

    // "until one answers below 0; it answers how many were done"

    static void stopsAtAFullText(Check check) {
        EditorCore x = new EditorCore();
        check.records(x, "abc");
        check.fills(x, 'x', 98);
        check.sets(x, 5);
        check.answers(x, 21, 2);
        check.due("length", x.info(0), 100);
        check.due("the last", x.character(99), 'b');
        check.due("last command", x.info(13), 100);
    }

    static void stopsAtNothingToDo(Check check) {
        EditorCore x = check.start("|abcde");
        check.binds(x, 1, 8);
        check.records(x, "1");
        check.sets(x, 9);
        check.answers(x, 21, 4);
        check.due("all taken out", Check.shown(x), "|");
        check.due("last command", x.info(13), 8);
    }

    static void stopsAtKeysThatCallNothing(Check check) {
        EditorCore x = check.start("|ab");
        check.binds(x, 1, 0);
        check.records(x, "c1d");
        check.binds(x, 1, -1);
        check.sets(x, 3);
        check.answers(x, 21, 1);
        check.due("stopped", Check.shown(x), "cadc|b");
    }

    static void stopsInALaterRound(Check check) {
        EditorCore x = check.start("|abcde");
        check.binds(x, 1, 0);
        check.binds(x, 2, 8);
        check.records(x, "12");
        check.sets(x, 9);
        check.answers(x, 21, 3);
        check.due("stopped in the second round", Check.shown(x), "ace|");
    }

    static void theOneThatStoppedItIsNotCounted(Check check) {
        EditorCore x = check.start("ab|");
        check.binds(x, 1, 8);
        check.does(x, 1);
        check.records(x, "1");
        check.answers(x, 21, 0);
        check.due("steps", x.info(4), 2);
    }

    static void prefixesAreCounted(Check check) {
        EditorCore x = check.start("abc|");
        check.binds(x, 1, 2, 3, 1, 0);
        check.records(x, "123");
        check.answers(x, 21, 3);
        check.due("two back", Check.shown(x), "a|bc");
    }

    static void pendingKeysComeBeforeTheFirstEvent(Check check) {
        EditorCore x = check.start("abc|");
        check.binds(x, 1, 4);
        check.binds(x, 2, 1, -1, 1, 0);
        check.records(x, "1");
        check.does(x, 5);
        check.presses(x, 2, 1000);
        check.answers(x, 21, 1);
        check.due("2 1 was pressed, not 1", Check.shown(x), "ab|c");
        check.due("pending", x.info(5), 0);
    }

    static void keysMayStayPending(Check check) {
        EditorCore x = check.start("abc|");
        check.binds(x, 1, 2, -1, 1, 0);
        check.due("macro(true)", x.macro(true), 0);
        check.presses(x, 1, 1000);
        check.due("macro(false)", x.macro(false), 1);
        check.presses(x, 2, 0);
        check.answers(x, 21, 1);
        check.due("pending", x.info(5), 1);
        check.presses(x, 2, 0);
        check.due("1 2 twice", Check.shown(x), "a|bc");
    }

    static void theKeysThatCalledItAreNotPending(Check check) {
        EditorCore x = check.start("abc|");
        check.binds(x, 1, 4);
        check.records(x, "1");
        check.does(x, 5);
        check.binds(x, 2, 3, -1, 21, 0);
        check.presses(x, 2, 1000);
        check.presses(x, 3, 1);
        check.due("1 was pressed", Check.shown(x), "|abc");
    }

    // "It is the LAST COMMAND afterwards only if no EVENT was done."

    static void theLastEventsCommandIsTheLast(Check check) {
        EditorCore x = check.start("abc|");
        check.binds(x, 1, 4);
        check.records(x, "d1");
        check.answers(x, 21, 2);
        check.due("last command", x.info(13), 4);
    }

    static void withNoEventDoneItIsTheLast(Check check) {
        EditorCore x = check.start("a|b");
        check.binds(x, 1, 8);
        check.records(x, "1");
        check.does(x, 5);
        check.sets(x, 7);
        check.answers(x, 21, 0);
        check.due("last command", x.info(13), 21);
        check.due("n", x.info(12), 1);
    }

    static void withNoEventDoneItPartsKillsAndYanks(Check check) {
        EditorCore x = check.start("a|b/c");
        check.binds(x, 1, 16);
        check.does(x, 15);
        check.records(x, "1");
        check.binds(x, 1, -1);
        check.does(x, 10);
        check.answers(x, 21, 0);
        check.does(x, 10);
        check.due("two kills", Check.kills(x), "/,b");
        check.does(x, 13);
        check.answers(x, 21, 0);
        check.answers(x, 14, -2);
    }

    static void withAPrefixDoneItIsNotTheLast(Check check) {
        EditorCore x = check.start("a|b/c");
        check.binds(x, 1, 1, -1, 5, 0);
        check.records(x, "1");
        check.presses(x, 1, 0);
        check.does(x, 3, 4, 10);
        check.answers(x, 21, 1);
        check.due("last command", x.info(13), 10);
        check.does(x, 10);
        check.due("one kill", Check.kills(x), "ab/");
    }

    static void theCommandBeforeItIsTheLastForItsFirstEvent(Check check) {
        EditorCore x = check.start("|ab/cd");
        check.binds(x, 1, 10);
        check.records(x, "1");
        check.answers(x, 21, 1);
        check.due("one kill", Check.kills(x), "ab/");
        EditorCore y = check.start("ab");
        check.records(y, "c");
        check.answers(y, 21, 1);
        check.due("one step", y.info(4), 1);
        EditorCore z = check.start("|abbx");
        check.does(z, 15, 0, 11, 0, 0, 11);
        check.binds(z, 1, 14);
        check.does(z, 13);
        check.records(z, "1");
        check.due("14", Check.shown(z), "^a|x");
        check.answers(z, 21, 1);
        check.due("14 again", Check.shown(z), "^bb|x");
    }

    static void itsEventsAreNotRecorded(Check check) {
        EditorCore x = new EditorCore();
        check.records(x, "abc");
        check.sets(x, 5);
        check.answers(x, 21, 15);
        check.due("events", x.info(6), 3);
        check.due("recorded", x.info(7), 0);
    }
}
