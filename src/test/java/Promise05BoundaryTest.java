/** Promise 5, bind: the boundary cases. Behind each sentence of the document stand its cases. */
public final class Promise05BoundaryTest {
    public static void main(String[] args) throws IllegalAccessException {
        Cases.run(Promise05BoundaryTest.class);
    }

    private static final int[] FAR_OFF = {Integer.MIN_VALUE, -17, -2, 17, 100, 256, Integer.MAX_VALUE};

    // "first 0 .. 15"

    static void theFirstKeyZeroAndFifteen(Check check) {
        EditorCore x = new EditorCore();
        check.binds(x, 0, -1, -1, 4, 0);
        check.binds(x, 15, -1, -1, 5, 0);
        check.presses(x, 0, 0);
        check.due("last command", x.info(13), 4);
        check.presses(x, 15, 0);
        check.due("last command", x.info(13), 5);
    }

    static void theFirstKeyMinusOneIsRefused(Check check) {
        Twins.refused(check, "bind(-1, -1, -1, 4)", x -> x.bind(-1, -1, -1, 4));
        Twins.refused(check, "bind(-1, 1, -1, 4)", x -> x.bind(-1, 1, -1, 4));
    }

    static void theFirstKeySixteenIsRefused(Check check) {
        Twins.refused(check, "bind(16, -1, -1, 4)", x -> x.bind(16, -1, -1, 4));
    }

    // "second and third 0 .. 15 or -1 for none"

    static void theSecondKeyZeroAndFifteen(Check check) {
        EditorCore x = new EditorCore();
        check.binds(x, 3, 0, -1, 4, 0);
        check.binds(x, 3, 15, -1, 5, 0);
        check.presses(x, 3, 1000);
        check.presses(x, 0, 0);
        check.due("last command", x.info(13), 4);
        check.presses(x, 3, 1000);
        check.presses(x, 15, 0);
        check.due("last command", x.info(13), 5);
    }

    static void theThirdKeyZeroAndFifteen(Check check) {
        EditorCore x = new EditorCore();
        check.binds(x, 3, 7, 0, 4, 0);
        check.binds(x, 3, 7, 15, 5, 0);
        check.presses(x, 3, 1000);
        check.presses(x, 7, 1000);
        check.presses(x, 0, 0);
        check.due("last command", x.info(13), 4);
        check.presses(x, 3, 1000);
        check.presses(x, 7, 1000);
        check.presses(x, 15, 0);
        check.due("last command", x.info(13), 5);
    }

    static void theSecondKeySixteenIsRefused(Check check) {
        Twins.refused(check, "bind(3, 16, -1, 4)", x -> x.bind(3, 16, -1, 4));
        Twins.refused(check, "bind(3, -2, -1, 4)", x -> x.bind(3, -2, -1, 4));
    }

    static void theThirdKeySixteenIsRefused(Check check) {
        Twins.refused(check, "bind(3, 4, 16, 4)", x -> x.bind(3, 4, 16, 4));
        Twins.refused(check, "bind(3, 4, -2, 4)", x -> x.bind(3, 4, -2, 4));
    }

    static void keysFarOffAreRefused(Check check) {
        EditorCore x = new EditorCore();
        for (int key : FAR_OFF) {
            check.binds(x, key, -1, -1, 4, -1);
            check.binds(x, 1, key, -1, 4, -1);
            check.binds(x, 1, key, 1, 4, -1);
            check.binds(x, 1, 1, key, 4, -1);
            check.binds(x, 1, -1, key, 4, -1);
            check.binds(x, 1, 1, key, -1, -1);
        }
        check.due("bindings", x.info(8), 0);
    }

    // "no third one without a second"

    static void aThirdKeyWithoutASecondIsRefused(Check check) {
        Twins.refused(check, "bind(3, -1, 0, 4)", x -> x.bind(3, -1, 0, 4));
        Twins.refused(check, "bind(3, -1, 15, -1)", x -> x.bind(3, -1, 15, -1));
    }

    // "to a command 0 .. 21, or takes their binding away (-1), else REFUSED"

    static void everyCommandCanBeBound(Check check) {
        for (int number = 0; number <= 21; number++) {
            EditorCore x = check.start("ab cd|");
            check.binds(x, 2, number);
            EditorCore y = check.start("ab cd|");
            check.presses(x, 2, y.command(number));
            check.due("like command(" + number + ")", Check.shown(x), Check.shown(y));
            check.due("like command(" + number + ")", x.info(13), y.info(13));
        }
    }

    static void twentyTwoIsRefused(Check check) {
        Twins.refused(check, "bind(3, -1, -1, 22)", x -> x.bind(3, -1, -1, 22));
    }

    static void minusTwoIsRefused(Check check) {
        Twins.refused(check, "bind(4, -1, -1, -2)", x -> x.bind(4, -1, -1, -2));
    }

    static void commandsFarOffAreRefused(Check check) {
        EditorCore x = new EditorCore();
        for (int number : new int[] {Integer.MIN_VALUE, -3, 23, 100, 1000, Integer.MAX_VALUE}) {
            check.binds(x, 1, -1, -1, number, -1);
            check.binds(x, 1, 2, 3, number, -1);
        }
        check.due("bindings", x.info(8), 0);
    }

    static void aBindingIsTakenAway(Check check) {
        EditorCore x = new EditorCore();
        check.binds(x, 1, 2, 3, 4, 0);
        check.binds(x, 1, 2, 4, 5, 0);
        check.binds(x, 1, 2, 3, -1, 0);
        check.due("bindings", x.info(8), 1);
        check.presses(x, 1, 1000);
        check.presses(x, 2, 1000);
        check.presses(x, 3, -4);
        check.presses(x, 1, 1000);
        check.presses(x, 2, 1000);
        check.presses(x, 4, 0);
    }

    static void theOthersKeepTheirCommands(Check check) {
        for (int gone = 0; gone <= 3; gone++) {
            EditorCore x = new EditorCore();
            for (int key = 0; key <= 3; key++) {
                check.binds(x, key, 4 + key);
            }
            check.binds(x, gone, -1);
            for (int key = 0; key <= 3; key++) {
                check.presses(x, key, key == gone ? -4 : 0);
                check.due("last command", x.info(13), key == gone ? key == 0 ? -2 : 3 + key : 4 + key);
            }
        }
    }

    static void keysThatAreNotBoundCanBeTakenAway(Check check) {
        EditorCore x = new EditorCore();
        check.binds(x, 1, -1, -1, -1, 0);
        check.binds(x, 1, 2, -1, -1, 0);
        check.binds(x, 1, 2, 3, -1, 0);
        check.due("bindings", x.info(8), 0);
        check.presses(x, 1, -4);
    }

    static void theSameKeysAreBoundAnew(Check check) {
        EditorCore x = new EditorCore();
        check.binds(x, 1, 2, -1, 4, 0);
        check.binds(x, 1, 2, -1, 5, 0);
        check.due("bindings", x.info(8), 1);
        check.presses(x, 1, 1000);
        check.presses(x, 2, 0);
        check.due("last command", x.info(13), 5);
    }

    /** The key 3, the keys 5 6 and the keys 7 8 9 are bound. */
    private static EditorCore bound(Check check) {
        EditorCore x = check.start("ab|c");
        check.binds(x, 3, -1, -1, 4, 0);
        check.binds(x, 5, 6, -1, 5, 0);
        check.binds(x, 7, 8, 9, 1, 0);
        check.sets(x, 2);
        return x;
    }

    // "A shorter beginning of them is bound: FULL, also for -1."

    static void twoKeysBehindABoundOneAreFull(Check check) {
        Twins.unchanged(check, () -> bound(check), "bind(3, 0, -1, 5)", x -> x.bind(3, 0, -1, 5), -3);
        Twins.unchanged(check, () -> bound(check), "bind(3, 15, -1, 5)", x -> x.bind(3, 15, -1, 5), -3);
    }

    static void threeKeysBehindABoundOneAreFull(Check check) {
        Twins.unchanged(check, () -> bound(check), "bind(3, 0, 0, 5)", x -> x.bind(3, 0, 0, 5), -3);
        Twins.unchanged(check, () -> bound(check), "bind(3, 15, 15, 5)", x -> x.bind(3, 15, 15, 5), -3);
    }

    static void threeKeysBehindTwoBoundOnesAreFull(Check check) {
        Twins.unchanged(check, () -> bound(check), "bind(5, 6, 0, 5)", x -> x.bind(5, 6, 0, 5), -3);
        Twins.unchanged(check, () -> bound(check), "bind(5, 6, 15, 5)", x -> x.bind(5, 6, 15, 5), -3);
    }

    static void takingAwayBehindABoundBeginningIsFull(Check check) {
        Twins.unchanged(check, () -> bound(check), "bind(3, 0, -1, -1)", x -> x.bind(3, 0, -1, -1), -3);
        Twins.unchanged(check, () -> bound(check), "bind(3, 15, 15, -1)", x -> x.bind(3, 15, 15, -1), -3);
        Twins.unchanged(check, () -> bound(check), "bind(5, 6, 0, -1)", x -> x.bind(5, 6, 0, -1), -3);
    }

    static void keysBesideABoundBeginningAreNotFull(Check check) {
        EditorCore x = bound(check);
        check.binds(x, 2, 15, -1, 5, 0);
        check.binds(x, 4, 0, -1, 5, 0);
        check.binds(x, 5, 5, 15, 5, 0);
        check.binds(x, 5, 7, 0, 5, 0);
        check.binds(x, 6, 5, -1, 5, 0);
        check.due("bindings", x.info(8), 8);
    }

    static void theBeginningTakenAwayIsInTheWayNoMore(Check check) {
        EditorCore x = bound(check);
        check.binds(x, 3, -1, -1, -1, 0);
        check.binds(x, 3, 0, 0, 5, 0);
        check.presses(x, 3, 1000);
        check.presses(x, 0, 1000);
        check.presses(x, 0, 0);
    }

    // "If they are the beginning of longer bindings, these go"

    static void oneKeyDrivesTwoAndThreeAway(Check check) {
        EditorCore x = bound(check);
        check.binds(x, 7, 0, -1, 4, 0);
        check.binds(x, 7, 15, 15, 4, 0);
        check.due("bindings", x.info(8), 5);
        check.binds(x, 7, -1, -1, 5, 0);
        check.due("bindings", x.info(8), 3);
        check.presses(x, 7, 0);
        check.due("last command", x.info(13), 5);
        check.presses(x, 3, 0);
        check.presses(x, 5, 1000);
        check.presses(x, 6, 0);
    }

    static void twoKeysDriveThreeAway(Check check) {
        EditorCore x = bound(check);
        check.binds(x, 7, 8, 0, 4, 0);
        check.binds(x, 7, 7, 15, 4, 0);
        check.binds(x, 7, 9, 0, 4, 0);
        check.due("bindings", x.info(8), 6);
        check.binds(x, 7, 8, -1, 5, 0);
        check.due("bindings", x.info(8), 5);
        check.presses(x, 7, 1000);
        check.presses(x, 8, 0);
        check.presses(x, 7, 1000);
        check.presses(x, 7, 1000);
        check.presses(x, 15, 0);
        check.presses(x, 7, 1000);
        check.presses(x, 9, 1000);
        check.presses(x, 0, 0);
    }

    // "(for -1 nothing happens then)"

    static void takingABeginningAwayLeavesTheLongerOnes(Check check) {
        Twins.unchanged(check, () -> bound(check), "bind(7, -1, -1, -1)", x -> x.bind(7, -1, -1, -1), 0);
        Twins.unchanged(check, () -> bound(check), "bind(7, 8, -1, -1)", x -> x.bind(7, 8, -1, -1), 0);
        Twins.unchanged(check, () -> bound(check), "bind(5, -1, -1, -1)", x -> x.bind(5, -1, -1, -1), 0);
        EditorCore x = bound(check);
        check.binds(x, 7, -1, -1, -1, 0);
        check.due("bindings", x.info(8), 3);
        check.presses(x, 7, 1000);
        check.presses(x, 8, 1000);
        check.presses(x, 9, 0);
    }

    /** 24 bindings: 0 0 0 .. 0 0 15 and 0 1 .. 0 8. */
    private static EditorCore withTwentyFour(Check check) {
        EditorCore x = new EditorCore();
        for (int key = 0; key <= 15; key++) {
            check.binds(x, 0, 0, key, 4, 0);
        }
        for (int key = 1; key <= 8; key++) {
            check.binds(x, 0, key, -1, 5, 0);
        }
        check.due("bindings", x.info(8), 24);
        return x;
    }

    // "There are 24 other bindings than these and those that go, for a command: FULL."

    static void theTwentyFourthIsTaken(Check check) {
        EditorCore x = withTwentyFour(check);
        check.presses(x, 0, 1000);
        check.presses(x, 8, 0);
        check.presses(x, 0, 1000);
        check.presses(x, 0, 1000);
        check.presses(x, 0, 0);
    }

    static void theTwentyFifthIsFull(Check check) {
        Twins.unchanged(check, () -> withTwentyFour(check), "bind(1, -1, -1, 4)", x -> x.bind(1, -1, -1, 4), -3);
        Twins.unchanged(check, () -> withTwentyFour(check), "bind(0, 9, -1, 4)", x -> x.bind(0, 9, -1, 4), -3);
        Twins.unchanged(check, () -> withTwentyFour(check), "bind(15, 15, 15, 4)", x -> x.bind(15, 15, 15, 4), -3);
    }

    static void oneOfTwentyFourIsBoundAnew(Check check) {
        EditorCore x = withTwentyFour(check);
        check.binds(x, 0, 8, -1, 6, 0);
        check.due("bindings", x.info(8), 24);
        check.presses(x, 0, 1000);
        check.presses(x, 8, 0);
        check.due("last command", x.info(13), 6);
    }

    static void aBeginningOfSomeOfTwentyFourIsTaken(Check check) {
        EditorCore x = withTwentyFour(check);
        check.binds(x, 0, 0, -1, 6, 0);
        check.due("16 go", x.info(8), 9);
        EditorCore y = withTwentyFour(check);
        check.binds(y, 0, -1, -1, 6, 0);
        check.due("all go", y.info(8), 1);
        check.presses(y, 0, 0);
    }

    static void aBeginningOfOneOfTwentyFourIsTaken(Check check) {
        EditorCore x = new EditorCore();
        for (int key = 0; key <= 11; key++) {
            check.binds(x, key, 1, -1, 4, 0);
            check.binds(x, key, 2, 2, 5, 0);
        }
        check.due("bindings", x.info(8), 24);
        check.binds(x, 11, 2, -1, 6, 0);
        check.due("one goes, one comes", x.info(8), 24);
        check.binds(x, 12, 2, -1, 6, -3);
    }

    static void takingAwayIsNeverFullForTheirNumber(Check check) {
        EditorCore x = withTwentyFour(check);
        check.binds(x, 1, -1, -1, -1, 0);
        check.binds(x, 0, 9, -1, -1, 0);
        check.due("bindings", x.info(8), 24);
        check.binds(x, 0, 1, -1, -1, 0);
        check.due("bindings", x.info(8), 23);
        check.binds(x, 1, -1, -1, 4, 0);
        check.binds(x, 2, -1, -1, 4, -3);
    }

    // "Numbers are tested first."

    static void refusedBeforeFull(Check check) {
        EditorCore x = withTwentyFour(check);
        check.binds(x, 1, -1, -1, 22, -1);
        check.binds(x, 1, -1, 3, 4, -1);
        check.binds(x, 0, 1, 2, 22, -1);
        check.binds(x, 0, 1, 16, 4, -1);
        check.binds(x, 0, 1, 2, 4, -3);
    }

    static void itIsNoCommandAndLeavesPendingKeys(Check check) {
        EditorCore x = bound(check);
        check.presses(x, 7, 1000);
        check.binds(x, 1, 4);
        check.binds(x, 1, -1);
        check.due("pending", x.info(5), 1);
        check.due("last command", x.info(13), 1);
        check.due("n", x.info(12), 2);
        check.presses(x, 8, 1000);
    }
}
