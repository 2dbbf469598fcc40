/** Promise 7, macro: the boundary cases. Behind each sentence of the document stand its cases. */
public final class Promise07BoundaryTest {
    public static void main(String[] args) throws IllegalAccessException {
        Cases.run(Promise07BoundaryTest.class);
    }

    private static EditorCore recording(Check check) {
        EditorCore x = check.start("ab|c");
        check.binds(x, 1, 0);
        check.binds(x, 2, 3, -1, 1, 0);
        check.due("macro(true)", x.macro(true), 0);
        return x;
    }

    // "Begins to record THE MACRO, which becomes empty (on), or ends that."

    static void itBecomesEmpty(Check check) {
        EditorCore x = check.start("ab|c");
        check.records(x, "xyz");
        check.due("macro(true)", x.macro(true), 0);
        check.due("events", x.info(6), 0);
        check.due("recorded", x.info(7), 1);
        check.due("macro(false)", x.macro(false), 0);
        check.answers(x, 21, -2);
    }

    static void endedItStays(Check check) {
        EditorCore x = check.start("ab|c");
        check.records(x, "xyz");
        check.due("events", x.info(6), 3);
        check.due("recorded", x.info(7), 0);
        check.types(x, "w");
        check.due("events", x.info(6), 3);
    }

    // "It is so already: REFUSED."

    static void endedAlreadyIsRefused(Check check) {
        Twins.unchanged(check, EditorCore::new, "macro(false)", x -> x.macro(false), -1);
        Twins.unchanged(check, () -> {
            EditorCore x = check.start("ab|c");
            check.records(x, "xyz");
            check.sets(x, 2);
            return x;
        }, "macro(false)", x -> x.macro(false), -1);
    }

    static void begunAlreadyIsRefused(Check check) {
        Twins.unchanged(check, () -> recording(check), "macro(true)", x -> x.macro(true), -1);
        Twins.unchanged(check, () -> {
            EditorCore x = recording(check);
            check.types(x, "xy");
            check.presses(x, 1, 0);
            check.sets(x, 2);
            return x;
        }, "macro(true)", x -> x.macro(true), -1);
    }

    // "DONE; when ended, how many EVENTS it has."

    static void endedWithNoneOneAndTwelve(Check check) {
        EditorCore x = new EditorCore();
        check.records(x, "");
        check.records(x, "a");
        check.records(x, "abcdefghijkl");
    }

    // "THE MACRO is a list of at most 12 EVENTS", "(in its order, behind 12 they are lost)"

    static void theThirteenthIsLost(Check check) {
        EditorCore x = new EditorCore();
        check.due("macro(true)", x.macro(true), 0);
        check.types(x, "abcdefghijklm");
        check.due("events", x.info(6), 12);
        check.due("macro(false)", x.macro(false), 12);
        check.does(x, 18, 11);
        check.answers(x, 21, 12);
        check.due("the first twelve in their order", Check.shown(x).replace("^", ""), "abcdefghijkl|");
    }

    static void aKeyBehindTwelveIsLostToo(Check check) {
        EditorCore x = recording(check);
        check.types(x, "abcdefghijkl");
        check.presses(x, 1, 0);
        check.presses(x, 2, 1000);
        check.due("macro(false)", x.macro(false), 12);
    }

    static void twelveKeysAndTheThirteenth(Check check) {
        EditorCore x = recording(check);
        for (int i = 0; i < 13; i++) {
            check.presses(x, 1, 0);
            check.due("events", x.info(6), Math.min(12, i + 1));
        }
        check.due("macro(false)", x.macro(false), 12);
    }

    // "every press and type that answers 0 or more adds an EVENT"

    static void aPrefixIsAnEvent(Check check) {
        EditorCore x = recording(check);
        check.presses(x, 2, 1000);
        check.due("events", x.info(6), 1);
        check.presses(x, 3, 0);
        check.due("events", x.info(6), 2);
    }

    static void whatAnswersBelowZeroIsNone(Check check) {
        EditorCore x = recording(check);
        check.presses(x, 16, -1);
        check.presses(x, 9, -4);
        check.due("type(33)", x.type(33), -1);
        check.binds(x, 4, 20);
        check.presses(x, 4, -2);
        check.due("events", x.info(6), 0);
    }

    static void aFullTypeIsNone(Check check) {
        EditorCore x = recording(check);
        check.due("macro(false)", x.macro(false), 0);
        check.fills(x, 'a', 99);
        check.due("macro(true)", x.macro(true), 0);
        check.due("type(97)", x.type('a'), 0);
        check.due("type(97)", x.type('a'), -3);
        check.due("macro(false)", x.macro(false), 1);
    }

    static void anUnboundKeyBehindAPrefixIsNone(Check check) {
        EditorCore x = recording(check);
        check.presses(x, 2, 1000);
        check.presses(x, 9, -4);
        check.due("macro(false)", x.macro(false), 1);
    }

    static void commandsAndOtherCallsAreNone(Check check) {
        EditorCore x = recording(check);
        check.does(x, 0, 1, 8, 15, 18);
        check.sets(x, 3);
        x.marker(0, true);
        x.frame(6, 6);
        x.info(1);
        x.cell(0, 0);
        check.binds(x, 5, 5);
        check.due("macro(false)", x.macro(false), 0);
    }

    static void whatIsNotRecordedIsNone(Check check) {
        EditorCore x = recording(check);
        check.due("macro(false)", x.macro(false), 0);
        check.types(x, "x");
        check.presses(x, 1, 0);
        check.due("events", x.info(6), 0);
    }

    // "keys and typed characters"

    static void aTypedTenIsNotTheKeyTen(Check check) {
        EditorCore x = check.start("ab|");
        check.binds(x, 10, 1);
        check.due("macro(true)", x.macro(true), 0);
        check.due("type(10)", x.type(10), 0);
        check.presses(x, 10, 0);
        check.due("macro(false)", x.macro(false), 2);
        check.answers(x, 21, 2);
        check.due("an end of line, then back", Check.shown(x), "ab|//");
    }

    static void itIsNoCommand(Check check) {
        EditorCore x = check.start("|ab/c");
        check.does(x, 10);
        check.sets(x, 3);
        check.due("macro(true)", x.macro(true), 0);
        check.due("macro(false)", x.macro(false), 0);
        check.due("n", x.info(12), 3);
        check.does(x, 10);
        check.due("one kill", Check.kills(x), "ab/");
    }

    static void pendingKeysStay(Check check) {
        EditorCore x = recording(check);
        check.presses(x, 2, 1000);
        check.due("macro(false)", x.macro(false), 1);
        check.due("pending", x.info(5), 1);
        check.due("macro(true)", x.macro(true), 0);
        check.due("pending", x.info(5), 1);
        check.presses(x, 3, 0);
    }
}
