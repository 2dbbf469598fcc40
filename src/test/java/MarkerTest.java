/** Promise 8: marker, and how edits move markers and the mark. */
public final class MarkerTest {
    public static void main(String[] args) {
        Check check = new Check();
        setting(check);
        puttingIn(check);
        takingOut(check);
        replacing(check);
        check.end();
    }

    private static void setting(Check check) {
        EditorCore x = check.start("ab|c");
        for (int i : new int[] {Integer.MIN_VALUE, -1, 4, 5, Integer.MAX_VALUE}) {
            check.due("marker(" + i + ", true)", x.marker(i, true), -1);
            check.due("marker(" + i + ", false)", x.marker(i, false), -1);
        }
        check.due("none", Check.markers(x), "-2 -2 -2 -2");
        check.due("marker(0, true)", x.marker(0, true), 0);
        check.does(x, 0);
        check.due("marker(3, false)", x.marker(3, false), 0);
        check.due("markers", Check.markers(x), "2 -2 -2 3");
        check.does(x, 4);
        check.due("moving point leaves them", Check.markers(x), "2 -2 -2 3");
        check.due("marker(3, true)", x.marker(3, true), 0);
        check.due("again", Check.markers(x), "2 -2 -2 0");
        check.due("the mark stays none", x.info(2), -2);
        check.due("marker is no command", x.info(13), 4);
        check.types(x, "xy");
        check.due("marker 3 follows now", Check.markers(x), "4 -2 -2 2");
        check.due("marker(3, false)", x.marker(3, false), 0);
        check.types(x, "z");
        check.due("and no more", Check.markers(x), "5 -2 -2 2");
    }

    /** Marker 0 before, 1 (not following) and 2 (following) and the mark at place 2, marker 3 behind. */
    private static EditorCore around(Check check) {
        EditorCore x = check.start("a|bcd");
        x.marker(0, true);
        check.goTo(x, 2);
        x.marker(1, false);
        x.marker(2, true);
        check.does(x, 15, 0);
        x.marker(3, false);
        check.goTo(x, 2);
        check.due("markers", Check.markers(x), "1 2 2 3");
        return x;
    }

    private static void puttingIn(Check check) {
        EditorCore x = around(check);
        check.due("argument(3)", x.argument(3), 0);
        check.types(x, "x");
        check.due("typed at place 2", Check.markers(x), "1 2 5 6");
        check.due("the mark does not follow", Check.shown(x), "ab^xxx|cd");
        EditorCore end = check.start("ab|");
        end.marker(0, true);
        end.marker(1, false);
        check.types(end, "c");
        check.due("at the text's end", Check.markers(end), "3 2 -2 -2");
    }

    private static void takingOut(Check check) {
        EditorCore x = around(check);
        check.does(x, 8);
        check.due("behind place 2", Check.markers(x), "1 2 2 2");
        x = around(check);
        check.does(x, 9);
        check.due("before place 2", Check.markers(x), "1 1 1 2");
        check.due("the mark", Check.shown(x), "a^|cd");
        x = around(check);
        check.goTo(x, 0);
        check.doesTimes(x, 3, 8);
        check.due("all around", Check.markers(x), "0 0 0 0");
        check.due("the mark", Check.shown(x), "^|d");
        x = around(check);
        check.does(x, 4, 8);
        check.due("before all", Check.markers(x), "0 1 1 2");
        check.does(x, 5, 9);
        check.due("behind all", Check.markers(x), "0 1 1 2");
        x = around(check);
        check.does(x, 4, 10);
        check.due("a killed line", Check.markers(x), "0 0 0 0");
    }

    /** An edit that takes out and puts in: undoing a command 14 that replaced "cd" by "ab". */
    private static void replacing(Check check) {
        EditorCore x = check.start("|abcde");
        check.does(x, 15, 0, 0, 11, 0, 0, 11);
        check.due("kills", Check.kills(x), "cd,ab");
        check.types(x, "xy");
        check.does(x, 1, 13, 14);
        check.due("put in", Check.shown(x), "x^ab|ye");
        check.goTo(x, 1);
        x.marker(0, true);
        check.goTo(x, 2);
        x.marker(1, true);
        check.goTo(x, 3);
        x.marker(2, false);
        check.goTo(x, 4);
        x.marker(3, false);
        check.does(x, 19);
        check.due("undone", Check.shown(x), "x^cd|ye");
        check.due("markers", Check.markers(x), "1 1 3 4");
    }
}
