/** Promise 1, a new object: the boundary cases. Behind each sentence of the document stand its cases. */
public final class Promise01BoundaryTest {
    public static void main(String[] args) throws IllegalAccessException {
        Cases.run(Promise01BoundaryTest.class);
    }

    // "THE TEXT has 0 .. 100 characters ..; empty at first." "An empty text .."

    static void theTextIsEmpty(Check check) {
        EditorCore x = new EditorCore();
        check.due("length", x.info(0), 0);
        check.due("character(0)", x.character(0), -1);
        check.due("character(-1)", x.character(-1), -1);
        check.answers(x, 8, -2);
        check.answers(x, 9, -2);
        check.answers(x, 10, -2);
        check.answers(x, 17, -2);
    }

    // "POINT is a place, 0 at first"

    static void pointIsZero(Check check) {
        EditorCore x = new EditorCore();
        check.due("point", x.info(1), 0);
        check.types(x, "a");
        check.due("typed at 0", Check.shown(x), "a|");
    }

    // "MARK a place or none, none at first"

    static void markIsNone(Check check) {
        EditorCore x = new EditorCore();
        check.due("mark", x.info(2), -2);
        check.answers(x, 11, -2);
        check.answers(x, 12, -2);
        check.answers(x, 16, -2);
        check.types(x, "abc");
        check.due("no edit makes one", x.info(2), -2);
        check.answers(x, 16, -2);
    }

    // "MARKERS 0 .. 3 each a place or none, none at first"

    static void markersAreNone(Check check) {
        EditorCore x = new EditorCore();
        check.due("markers", Check.markers(x), "-2 -2 -2 -2");
        check.types(x, "abc");
        check.doesTimes(x, 2, 9);
        check.due("no edit makes one", Check.markers(x), "-2 -2 -2 -2");
    }

    // "COMMANDS have the ARGUMENT n, 1 unless set by argument"

    static void argumentIsOne(Check check) {
        EditorCore x = new EditorCore();
        check.due("n", x.info(12), 1);
        check.types(x, "a");
        check.due("typed once", x.info(0), 1);
    }

    // "The LAST COMMAND ..; none at first."

    static void lastCommandIsNone(Check check) {
        EditorCore x = new EditorCore();
        check.due("last command", x.info(13), -2);
        check.answers(x, 14, -2);
        check.due("last command", x.info(13), -2);
        check.types(x, "a");
        check.due("the first insert makes a step", x.info(4), 1);
    }

    static void noKills(Check check) {
        EditorCore x = new EditorCore();
        check.due("kills", x.info(3), 0);
        check.due("killed(0, 0)", x.killed(0, 0), -1);
        check.answers(x, 13, -2);
        check.answers(x, 20, -2);
    }

    static void noSteps(Check check) {
        EditorCore x = new EditorCore();
        check.due("steps", x.info(4), 0);
        check.answers(x, 19, -2);
    }

    // "The PENDING keys (none at first)"

    static void noPendingKeys(Check check) {
        EditorCore x = new EditorCore();
        check.due("pending", x.info(5), 0);
        check.binds(x, 3, 5);
        check.presses(x, 3, 0);
    }

    static void theMacroIsEmptyAndNotRecorded(Check check) {
        EditorCore x = new EditorCore();
        check.due("events", x.info(6), 0);
        check.due("recorded", x.info(7), 0);
        check.due("macro(false)", x.macro(false), -1);
        check.answers(x, 21, -2);
    }

    // "no bindings"

    static void noBindings(Check check) {
        EditorCore x = new EditorCore();
        check.due("bindings", x.info(8), 0);
        for (int key = 0; key <= 15; key++) {
            check.presses(x, key, -4);
            check.due("pending", x.info(5), 0);
        }
    }

    // "a frame of 10 columns and 4 rows"

    static void tenColumns(Check check) {
        EditorCore x = new EditorCore();
        check.due("cell(0, 9)", x.cell(0, 9), 0);
        check.due("cell(0, 10)", x.cell(0, 10), -1);
        check.types(x, "abcdefghijk");
        check.due("cell(0, 9)", x.cell(0, 9), 'j');
        check.due("cell(1, 0)", x.cell(1, 0), 'k');
    }

    static void fourRows(Check check) {
        EditorCore x = new EditorCore();
        check.due("cell(3, 0)", x.cell(3, 0), 0);
        check.due("cell(4, 0)", x.cell(4, 0), -1);
        check.types(x, "a/b/c/d");
        check.due("first row with four rows", x.info(10), 0);
        check.types(x, "/");
        check.due("first row with five rows", x.info(10), 1);
    }

    static void theFirstRowIsZero(Check check) {
        EditorCore x = new EditorCore();
        check.due("rows in all", x.info(9), 1);
        check.due("first row", x.info(10), 0);
        check.due("point's row", x.info(11), 0);
    }

    static void anotherObjectChangesNothing(Check check) {
        EditorCore x = new EditorCore();
        String state = Check.state(x);
        EditorCore other = check.start("ab/c|d");
        check.does(other, 15, 10);
        check.binds(other, 1, 5);
        other.marker(2, true);
        other.frame(4, 2);
        check.due("macro(true)", other.macro(true), 0);
        check.due("the first object", Check.state(x), state);
        check.due("a third object", Check.state(new EditorCore()), state);
    }

    // "An object is used for at most 512 calls after it has been made"

    static void theLastOfFiveHundredAndTwelveCalls(Check check) {
        EditorCore x = new EditorCore();
        for (int i = 0; i < 254; i++) {
            check.types(x, "a");
            check.does(x, 9);
        }
        check.due("call 509: steps", x.info(4), 508);
        check.does(x, 19);
        check.due("call 511: steps", x.info(4), 509);
        check.due("call 512: length", x.info(0), 1);
    }
}
