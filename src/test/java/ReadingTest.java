/** Promises 10, 11 and 12: character, markerAt and killed. */
public final class ReadingTest {
    public static void main(String[] args) {
        Check check = new Check();
        characters(check);
        markers(check);
        kills(check);
        check.end();
    }

    private static void characters(Check check) {
        EditorCore x = check.start("a z|/");
        int[] due = {97, 32, 122, 10};
        for (int i = 0; i < due.length; i++) {
            check.due("character(" + i + ")", x.character(i), due[i]);
        }
        for (int i : new int[] {Integer.MIN_VALUE, -1, 4, 5, 99, 100, 101, Integer.MAX_VALUE}) {
            check.due("character(" + i + ")", x.character(i), -1);
        }
        check.does(x, 8);
        check.due("character(3) is gone", x.character(3), -1);
        check.due("last command", x.info(13), 8);
    }

    private static void markers(Check check) {
        EditorCore x = check.start("ab|c");
        for (int i = 0; i < 4; i++) {
            check.due("markerAt(" + i + ")", x.markerAt(i), -2);
        }
        for (int i : new int[] {Integer.MIN_VALUE, -2, -1, 4, 5, Integer.MAX_VALUE}) {
            check.due("markerAt(" + i + ")", x.markerAt(i), -1);
        }
        check.does(x, 15);
        check.due("markerAt(4) is not the mark", x.markerAt(4), -1);
        for (int i = 0; i < 4; i++) {
            check.due("marker(" + i + ")", x.marker(i, i % 2 == 0), 0);
            check.due("markerAt(" + i + ")", x.markerAt(i), 2);
        }
        check.does(x, 4);
        check.due("marker(2)", x.marker(2, true), 0);
        check.due("markers", Check.markers(x), "2 2 0 2");
    }

    private static void kills(Check check) {
        EditorCore x = check.start("|ab/cd");
        for (int i = -1; i <= 4; i++) {
            check.due("killed(" + i + ", 0)", x.killed(i, 0), -1);
        }
        check.does(x, 10, 10, 15, 5, 12);
        int[][] due = {{99, 100, 0, 0}, {97, 98, 10, 0}};
        for (int i = 0; i < due.length; i++) {
            for (int k = 0; k < due[i].length; k++) {
                check.due("killed(" + i + ", " + k + ")", x.killed(i, k), due[i][k]);
            }
            for (int k : new int[] {100, 101, Integer.MAX_VALUE}) {
                check.due("killed(" + i + ", " + k + ")", x.killed(i, k), 0);
            }
            for (int k : new int[] {-1, -2, Integer.MIN_VALUE}) {
                check.due("killed(" + i + ", " + k + ")", x.killed(i, k), -1);
            }
        }
        for (int i : new int[] {Integer.MIN_VALUE, -1, 2, 3, 4, Integer.MAX_VALUE}) {
            check.due("killed(" + i + ", 0)", x.killed(i, 0), -1);
        }
        for (int i = 0; i < 4; i++) {
            check.does(x, 12);
        }
        check.due("killed(3, 1)", x.killed(3, 1), 100);
        check.due("killed(4, 0)", x.killed(4, 0), -1);
    }
}
