/** Promise 3, command 13 and 14: the boundary cases. Behind each sentence of the document stand its cases. */
public final class Promise03YankBoundaryTest {
    public static void main(String[] args) throws IllegalAccessException {
        Cases.run(Promise03YankBoundaryTest.class);
    }

    /** The kills "ccc", "bb" and "a", the newest first, and the text "xy" with point in its middle and no mark in use. */
    private static EditorCore withThreeKills(Check check) {
        EditorCore x = check.start("|abbcccxy");
        check.does(x, 15, 0, 11, 0, 0, 11, 0, 0, 0, 11, 0);
        check.due("kills", Check.kills(x), "ccc,bb,a");
        return x;
    }

    /** The kills "b" and 36 times "a", the newest first, and so many characters, point behind them. */
    private static EditorCore withALongKill(Check check, int length) {
        EditorCore x = new EditorCore();
        check.fills(x, 'a', 36);
        check.does(x, 18, 12);
        check.types(x, "b");
        check.does(x, 15, 1, 12, 5);
        check.fills(x, 'c', length);
        check.does(x, 5);
        check.due("length", x.info(0), length);
        return x;
    }

    // "13: the newest KILL is put in at POINT, which goes behind it; MARK becomes where it begins."

    static void atTheBeginningInTheMiddleAndAtTheEnd(Check check) {
        EditorCore x = check.start("|ab");
        check.does(x, 18, 12, 13);
        check.due("at the beginning", Check.shown(x), "^ab|ab");
        check.does(x, 1, 13);
        check.due("in the middle", Check.shown(x), "a^ab|bab");
        check.does(x, 5, 13);
        check.due("at the end", Check.shown(x), "aabbab^ab|");
    }

    static void inAnEmptyText(Check check) {
        EditorCore x = check.start("|ab");
        check.does(x, 10, 13);
        check.due("13", Check.shown(x), "^ab|");
    }

    static void theMarkBecomesThePlaceWithoutOneBefore(Check check) {
        EditorCore x = check.start("a|b");
        check.does(x, 10);
        check.due("no mark", x.info(2), -2);
        check.does(x, 13);
        check.due("mark", x.info(2), 1);
    }

    static void theNewestIsPutInAlways(Check check) {
        EditorCore x = withThreeKills(check);
        check.does(x, 13, 14, 14, 13);
        check.due("13 behind 14", Check.shown(x), "xa^ccc|y");
        check.does(x, 13);
        check.due("13 behind 13", Check.shown(x), "xaccc^ccc|y");
    }

    // "There is no KILL: NOTHING"

    static void withoutAKillNothing(Check check) {
        Twins.unchanged(check, () -> {
            EditorCore x = check.start("a|b");
            check.does(x, 15, 8);
            check.sets(x, 2);
            return x;
        }, "command(13)", x -> x.command(13), -2);
        Twins.unchanged(check, EditorCore::new, "command(13)", x -> x.command(13), -2);
    }

    // "more than 100 characters: FULL"

    static void exactlyHundred(Check check) {
        EditorCore x = withALongKill(check, 99);
        check.does(x, 13);
        check.due("length", x.info(0), 100);
        check.due("the last", x.character(99), 'b');
    }

    static void hundredAndOneIsFull(Check check) {
        Twins.unchanged(check, () -> withALongKill(check, 100), "command(13)", x -> x.command(13), -3);
    }

    static void aKillLongerThanTheRoomIsFull(Check check) {
        EditorCore x = new EditorCore();
        check.fills(x, 'a', 51);
        check.does(x, 18, 12);
        check.answers(x, 13, -3);
        check.due("length", x.info(0), 51);
        check.does(x, 8);
        check.answers(x, 13, -3);
        check.does(x, 8, 13);
        check.due("49 and 51", x.info(0), 100);
    }

    static void fullIsNotTheLastCommand(Check check) {
        EditorCore x = withALongKill(check, 100);
        check.sets(x, 4);
        check.answers(x, 13, -3);
        check.due("last command", x.info(13), 5);
        check.due("n", x.info(12), 4);
        check.answers(x, 14, -2);
    }

    static void fullBehindAYankIsNotASecondOne(Check check) {
        EditorCore x = withALongKill(check, 99);
        check.does(x, 13);
        int steps = x.info(4);
        check.answers(x, 13, -3);
        check.due("mark", x.info(2), 99);
        check.due("steps", x.info(4), steps);
        check.due("last command", x.info(13), 13);
    }

    // "14: only if the LAST COMMAND was 13 or 14, else NOTHING"

    static void behindEveryOtherCommandNothing(Check check) {
        for (int number : new int[] {0, 1, 2, 3, 4, 5, 6, 7, 8, 9, 10, 12, 15, 16, 17, 18, 19}) {
            Twins.unchanged(check, () -> {
                EditorCore x = withThreeKills(check);
                check.does(x, 13, number);
                return x;
            }, "14 behind " + number, x -> x.command(14), -2);
        }
    }

    static void behindAnInsertNothing(Check check) {
        Twins.unchanged(check, () -> {
            EditorCore x = withThreeKills(check);
            check.does(x, 13);
            check.types(x, "z");
            return x;
        }, "14 behind an insert", x -> x.command(14), -2);
    }

    static void behindElevenAndTwentyNothing(Check check) {
        EditorCore x = withThreeKills(check);
        check.does(x, 13, 11);
        check.answers(x, 14, -2);
        EditorCore y = withThreeKills(check);
        check.does(y, 13, 4, 20);
        check.answers(y, 14, -2);
    }

    static void withoutAnyCommandNothing(Check check) {
        Twins.unchanged(check, EditorCore::new, "command(14)", x -> x.command(14), -2);
    }

    static void behindWhatWasNotDoneStill(Check check) {
        EditorCore x = withThreeKills(check);
        check.does(x, 13);
        check.answers(x, 22, -1);
        check.answers(x, 21, -2);
        check.due("type(1)", x.type(1), -1);
        check.presses(x, 9, -4);
        check.sets(x, 7);
        x.marker(1, true);
        x.frame(6, 6);
        check.does(x, 14);
        check.due("14", Check.shown(x), "x^bb|y");
    }

    // "the text that it put in is replaced by the KILL next older to that"

    static void theNextOlderEveryTime(Check check) {
        EditorCore x = withThreeKills(check);
        check.does(x, 13);
        check.due("13", Check.shown(x), "x^ccc|y");
        check.does(x, 14);
        check.due("14", Check.shown(x), "x^bb|y");
        check.does(x, 14);
        check.due("14 again", Check.shown(x), "x^a|y");
    }

    static void aNewYankBeginsAnew(Check check) {
        EditorCore x = withThreeKills(check);
        check.does(x, 13, 14, 14, 13, 14);
        check.due("the second newest", Check.shown(x), "xa^bb|y");
    }

    // "(behind the oldest comes the newest again)"

    static void behindTheOldestTheNewest(Check check) {
        EditorCore x = withThreeKills(check);
        check.does(x, 13, 14, 14, 14);
        check.due("the newest again", Check.shown(x), "x^ccc|y");
        check.does(x, 14);
        check.due("and on", Check.shown(x), "x^bb|y");
    }

    static void behindTheFourthTheNewest(Check check) {
        EditorCore x = withThreeKills(check);
        check.does(x, 4, 15, 0, 12, 13, 14, 14);
        check.due("the third", Check.shown(x), "x^bb|y");
        check.does(x, 14);
        check.due("the fourth", Check.shown(x), "x^a|y");
        check.does(x, 14);
        check.due("the newest again", Check.shown(x), "x^x|y");
    }

    static void theOnlyOneComesAgain(Check check) {
        EditorCore x = check.start("|ab");
        check.does(x, 10, 13, 14);
        check.due("14", Check.shown(x), "^ab|");
        check.due("a step", x.info(4), 4);
        check.due("last command", x.info(13), 14);
        check.does(x, 14);
        check.due("14 again", Check.shown(x), "^ab|");
    }

    static void theKillsStayInTheirOrder(Check check) {
        EditorCore x = withThreeKills(check);
        check.does(x, 13, 14, 14);
        check.due("kills", Check.kills(x), "ccc,bb,a");
    }

    static void everyOneIsAStep(Check check) {
        EditorCore x = withThreeKills(check);
        int steps = x.info(4);
        check.does(x, 13, 14, 14);
        check.due("steps", x.info(4), steps + 3);
    }

    // "FULL as 13."

    static void replacedUpToExactlyHundred(Check check) {
        EditorCore x = withALongKill(check, 64);
        check.does(x, 13);
        check.due("length", x.info(0), 65);
        check.does(x, 14);
        check.due("length", x.info(0), 100);
        check.due("point", x.info(1), 100);
        check.due("mark", x.info(2), 64);
    }

    static void replacedUpToHundredAndOneIsFull(Check check) {
        Twins.unchanged(check, () -> {
            EditorCore x = withALongKill(check, 65);
            check.does(x, 13);
            check.sets(x, 2);
            return x;
        }, "command(14)", x -> x.command(14), -3);
    }

    static void whatIsReplacedGivesItsRoom(Check check) {
        EditorCore x = withALongKill(check, 64);
        check.does(x, 13, 14);
        check.due("length", x.info(0), 100);
        check.does(x, 14);
        check.due("the short one again", x.info(0), 65);
        check.does(x, 14);
        check.due("the long one again", x.info(0), 100);
    }

    static void fullGoesOnToNoOther(Check check) {
        EditorCore x = withALongKill(check, 99);
        check.does(x, 13);
        check.answers(x, 14, -3);
        check.answers(x, 14, -3);
        check.answers(x, 14, -3);
        check.due("length", x.info(0), 100);
        check.due("the last", x.character(99), 'b');
    }
}
