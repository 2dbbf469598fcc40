/** Promise 6, press: the boundary cases. Behind each sentence of the document stand its cases. */
public final class Promise06BoundaryTest {
    public static void main(String[] args) throws IllegalAccessException {
        Cases.run(Promise06BoundaryTest.class);
    }

    /** The key 3, the keys 5 6 and the keys 7 8 9 are bound, n is 2. */
    private static EditorCore bound(Check check) {
        EditorCore x = check.start("abcd|e");
        check.binds(x, 3, -1, -1, 4, 0);
        check.binds(x, 5, 6, -1, 13, 0);
        check.binds(x, 7, 8, 9, 1, 0);
        check.sets(x, 2);
        return x;
    }

    // "Presses a key (0 .. 15, else REFUSED)."

    static void minusOneIsRefused(Check check) {
        Twins.refused(check, "press(-1)", x -> x.press(-1));
    }

    static void sixteenIsRefused(Check check) {
        Twins.refused(check, "press(16)", x -> x.press(16));
    }

    static void keysFarOffAreRefused(Check check) {
        EditorCore x = bound(check);
        check.presses(x, 7, 1000);
        for (int key : new int[] {Integer.MIN_VALUE, -17, -2, 17, 100, 256 + 8, Integer.MAX_VALUE}) {
            check.presses(x, key, -1);
        }
        check.due("pending", x.info(5), 1);
    }

    static void everyKeyAtEveryStroke(Check check) {
        for (int key = 0; key <= 15; key++) {
            EditorCore x = new EditorCore();
            check.binds(x, key, key, key, 6, 0);
            check.presses(x, key, 1000);
            check.due("pending", x.info(5), 1);
            check.presses(x, key, 1000);
            check.due("pending", x.info(5), 2);
            check.presses(x, key, 0);
            check.due("pending", x.info(5), 0);
            check.due("last command", x.info(13), 6);
        }
    }

    // "they are bound: PENDING is none, the command is done, its answer is this one's"

    static void oneKeyIsBound(Check check) {
        EditorCore x = bound(check);
        check.presses(x, 3, 0);
        check.due("done", Check.shown(x), "|abcde");
        check.due("pending", x.info(5), 0);
        check.due("last command", x.info(13), 4);
    }

    static void threeKeysAreBoundWithTheArgument(Check check) {
        EditorCore x = bound(check);
        check.presses(x, 7, 1000);
        check.presses(x, 8, 1000);
        check.presses(x, 9, 0);
        check.due("done", Check.shown(x), "ab|cde");
        check.due("n", x.info(12), 1);
    }

    static void aCommandWithNothingToDoEndsPending(Check check) {
        EditorCore x = bound(check);
        check.presses(x, 5, 1000);
        check.presses(x, 6, -2);
        check.due("pending", x.info(5), 0);
        check.due("n", x.info(12), 2);
        check.due("last command", x.info(13), 1);
        check.presses(x, 6, -4);
    }

    static void aCommandWithNothingToDoChangesNothing(Check check) {
        Twins.unchanged(check, () -> {
            EditorCore x = bound(check);
            check.binds(x, 2, 20);
            return x;
        }, "press(2)", x -> x.press(2), -2);
    }

    static void aFullCommandEndsPending(Check check) {
        EditorCore x = bound(check);
        check.fills(x, 'a', 51);
        check.does(x, 18, 12);
        check.presses(x, 5, 1000);
        check.presses(x, 6, -3);
        check.due("pending", x.info(5), 0);
        check.due("length", x.info(0), 51);
        check.due("last command", x.info(13), 12);
    }

    static void theMacrosAnswerIsItsOwn(Check check) {
        EditorCore x = bound(check);
        check.records(x, "xyz");
        check.binds(x, 1, 21);
        check.sets(x, 3);
        check.presses(x, 1, 9);
    }

    // "They are the beginning of a longer binding: they are PENDING, PREFIX."

    static void aBeginningOfTwoKeys(Check check) {
        EditorCore x = bound(check);
        check.presses(x, 5, 1000);
        check.due("pending", x.info(5), 1);
        check.due("n", x.info(12), 2);
        check.due("last command", x.info(13), 1);
    }

    static void beginningsOfThreeKeys(Check check) {
        EditorCore x = bound(check);
        check.presses(x, 7, 1000);
        check.due("pending", x.info(5), 1);
        check.presses(x, 8, 1000);
        check.due("pending", x.info(5), 2);
        check.due("n", x.info(12), 2);
        check.due("last command", x.info(13), 1);
    }

    // "Else PENDING is none, UNBOUND."

    static void anUnboundKeyChangesNothing(Check check) {
        Twins.unchanged(check, () -> bound(check), "press(0)", x -> x.press(0), -4);
        Twins.unchanged(check, () -> bound(check), "press(15)", x -> x.press(15), -4);
        Twins.unchanged(check, EditorCore::new, "press(0)", x -> x.press(0), -4);
    }

    static void anUnboundSecondKeyEndsPending(Check check) {
        Twins.alike(check, "press(5), press(5)", () -> bound(check), () -> {
            EditorCore x = bound(check);
            check.presses(x, 5, 1000);
            check.presses(x, 5, -4);
            check.due("pending", x.info(5), 0);
            return x;
        });
    }

    static void anUnboundThirdKeyEndsPending(Check check) {
        Twins.alike(check, "press(7), press(8), press(8)", () -> bound(check), () -> {
            EditorCore x = bound(check);
            check.presses(x, 7, 1000);
            check.presses(x, 8, 1000);
            check.presses(x, 8, -4);
            check.due("pending", x.info(5), 0);
            return x;
        });
    }

    static void aSingleKeysBindingDoesNotHoldBehindPendingOnes(Check check) {
        EditorCore x = bound(check);
        check.presses(x, 5, 1000);
        check.presses(x, 3, -4);
        check.due("nothing done", Check.shown(x), "abcd|e");
        check.presses(x, 3, 0);
        check.due("done", Check.shown(x), "|abcde");
    }

    static void theKeyThatEndedPendingBeginsNothing(Check check) {
        EditorCore x = bound(check);
        check.presses(x, 5, 1000);
        check.presses(x, 7, -4);
        check.presses(x, 8, -4);
        check.due("pending", x.info(5), 0);
    }

    static void pendingKeysWhoseBindingsAreGone(Check check) {
        EditorCore x = bound(check);
        check.presses(x, 7, 1000);
        check.presses(x, 8, 1000);
        check.binds(x, 7, 8, 9, -1, 0);
        check.due("pending", x.info(5), 2);
        check.presses(x, 9, -4);
        check.due("pending", x.info(5), 0);
    }

    static void pendingKeysThatAreBoundMeanwhile(Check check) {
        EditorCore x = bound(check);
        check.presses(x, 5, 1000);
        check.binds(x, 5, 4);
        check.due("pending", x.info(5), 1);
        check.presses(x, 6, -4);
        check.presses(x, 5, 0);
    }

    static void pendingKeysWithABindingMadeMeanwhile(Check check) {
        EditorCore x = bound(check);
        check.presses(x, 7, 1000);
        check.binds(x, 7, 0, -1, 4, 0);
        check.presses(x, 0, 0);
        check.due("done", Check.shown(x), "|abcde");
    }
}
