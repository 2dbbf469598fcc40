/** Promise 11, markerAt: the boundary cases. Behind each sentence of the document stand its cases. */
public final class Promise11BoundaryTest {
    public static void main(String[] args) throws IllegalAccessException {
        Cases.run(Promise11BoundaryTest.class);
    }

    // "The place of marker i"

    static void zeroToThree(Check check) {
        EditorCore x = check.start("abc|");
        for (int i = 0; i <= 3; i++) {
            check.due("marker(" + i + ", true)", x.marker(i, true), 0);
            check.due("markerAt(" + i + ")", x.markerAt(i), 3 - i);
            check.does(x, 1);
        }
    }

    // "-2 if it has none"

    static void withoutAPlace(Check check) {
        EditorCore x = check.start("abc|");
        check.due("marker(1, true)", x.marker(1, true), 0);
        check.due("markers", Check.markers(x), "-2 3 -2 -2");
    }

    // "REFUSED for another i"

    static void minusOneIsRefused(Check check) {
        Twins.refused(check, "markerAt(-1)", x -> x.markerAt(-1));
    }

    static void fourIsRefused(Check check) {
        Twins.refused(check, "markerAt(4)", x -> x.markerAt(4));
    }

    static void fourIsNotTheMark(Check check) {
        EditorCore x = check.start("ab|c");
        check.does(x, 15);
        check.due("markerAt(4)", x.markerAt(4), -1);
    }

    static void numbersFarOffAreRefused(Check check) {
        EditorCore x = check.start("abc|");
        x.marker(0, true);
        for (int i : new int[] {Integer.MIN_VALUE, -4, -2, 5, 100, Integer.MAX_VALUE}) {
            check.due("markerAt(" + i + ")", x.markerAt(i), -1);
        }
    }
}
