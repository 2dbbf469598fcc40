/** Promise 8, marker: the boundary cases; how edits move markers is in Promise03EditBoundaryTest. */
public final class Promise08BoundaryTest {
    public static void main(String[] args) throws IllegalAccessException {
        Cases.run(Promise08BoundaryTest.class);
    }

    // "The marker (0 .. 3) becomes POINT, FOLLOWING or not: DONE."

    static void minusOneIsRefused(Check check) {
        Twins.refused(check, "marker(-1, true)", x -> x.marker(-1, true));
        Twins.refused(check, "marker(-1, false)", x -> x.marker(-1, false));
    }

    static void fourIsRefused(Check check) {
        Twins.refused(check, "marker(4, true)", x -> x.marker(4, true));
        Twins.refused(check, "marker(4, false)", x -> x.marker(4, false));
    }

    static void numbersFarOffAreRefused(Check check) {
        EditorCore x = check.start("ab|c");
        check.does(x, 15, 4);
        for (int i : new int[] {Integer.MIN_VALUE, -2, 5, 100, Integer.MAX_VALUE}) {
            check.due("marker(" + i + ", true)", x.marker(i, true), -1);
        }
        check.due("markers", Check.markers(x), "-2 -2 -2 -2");
        check.due("mark", x.info(2), 2);
    }

    static void zeroToThreeAreTaken(Check check) {
        EditorCore x = check.start("abc|");
        for (int i = 3; i >= 0; i--) {
            check.due("marker(" + i + ", false)", x.marker(i, false), 0);
            check.does(x, 1);
        }
        check.due("markers", Check.markers(x), "0 1 2 3");
    }

    static void atTheBeginningAndAtTheEnd(Check check) {
        EditorCore x = check.start("ab|");
        check.due("marker(0, true)", x.marker(0, true), 0);
        check.does(x, 4);
        check.due("marker(1, true)", x.marker(1, true), 0);
        check.due("markers", Check.markers(x), "2 0 -2 -2");
    }

    static void inAnEmptyAndInAFullText(Check check) {
        EditorCore x = new EditorCore();
        check.due("marker(0, true)", x.marker(0, true), 0);
        check.due("marker(1, false)", x.marker(1, false), 0);
        check.due("markers", Check.markers(x), "0 0 -2 -2");
        check.fills(x, 'a', 100);
        check.due("marker(2, false)", x.marker(2, false), 0);
        check.due("markers", Check.markers(x), "100 0 100 -2");
    }

    static void setAgainItIsElsewhereAndOtherwise(Check check) {
        EditorCore x = check.start("ab|c");
        check.due("marker(2, true)", x.marker(2, true), 0);
        check.due("marker(2, false)", x.marker(2, false), 0);
        check.types(x, "x");
        check.due("follows no more", x.markerAt(2), 2);
        check.due("marker(2, true)", x.marker(2, true), 0);
        check.types(x, "y");
        check.due("follows again", x.markerAt(2), 4);
    }

    static void pointMovesWithoutIt(Check check) {
        EditorCore x = check.start("ab|c");
        check.due("marker(0, true)", x.marker(0, true), 0);
        check.does(x, 4, 5, 1);
        check.due("markers", Check.markers(x), "2 -2 -2 -2");
    }

    static void itIsNoCommand(Check check) {
        EditorCore x = check.start("|ab/c");
        check.does(x, 10);
        check.sets(x, 4);
        check.due("marker(0, true)", x.marker(0, true), 0);
        check.due("last command", x.info(13), 10);
        check.due("n", x.info(12), 4);
        check.due("mark", x.info(2), -2);
        check.does(x, 10);
        check.due("one kill", Check.kills(x), "ab/");
    }
}
