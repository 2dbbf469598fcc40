/** Promise 3 and 8, AN EDIT and the places it moves: the boundary cases. Behind each sentence stand its cases. */
public final class Promise03EditBoundaryTest {
    private static final String LETTERS = "abcdefgh";

    public static void main(String[] args) throws IllegalAccessException {
        Cases.run(Promise03EditBoundaryTest.class);
    }

    /** Where a mark, a following and another marker at the place go by the edit, with point at 3 before it. */
    private static String moved(Check check, int place, Edit edit) {
        EditorCore x = check.start(LETTERS);
        check.goTo(x, place);
        check.does(x, 15);
        x.marker(1, true);
        x.marker(2, false);
        check.goTo(x, 3);
        edit.on(x);
        return x.info(2) + " " + x.markerAt(1) + " " + x.markerAt(2);
    }

    private interface Edit {
        void on(EditorCore x);
    }

    private static void takesTwoOut(EditorCore x) {
        x.argument(2);
        x.command(8);
    }

    private static void putsTwoIn(EditorCore x) {
        x.argument(2);
        x.type('x');
    }

    // "m below p .. stays"

    static void takenOutBehindIt(Check check) {
        check.due("at 0", moved(check, 0, x -> takesTwoOut(x)), "0 0 0");
        check.due("at 2", moved(check, 2, x -> takesTwoOut(x)), "2 2 2");
    }

    static void putInBehindIt(Check check) {
        check.due("at 0", moved(check, 0, x -> putsTwoIn(x)), "0 0 0");
        check.due("at 2", moved(check, 2, x -> putsTwoIn(x)), "2 2 2");
    }

    // "or m = p with d above 0: stays"

    static void takenOutAtIt(Check check) {
        check.due("at 3", moved(check, 3, x -> takesTwoOut(x)), "3 3 3");
    }

    static void replacedAtItItStays(Check check) {
        check.due("at 2, by 17", moved(check, 2, x -> x.command(17)), "2 2 2");
    }

    // "m = p with d = 0: p, or behind s if it is a FOLLOWING marker"

    static void putInAtIt(Check check) {
        check.due("at 3", moved(check, 3, x -> putsTwoIn(x)), "3 5 3");
    }

    static void putInAtTheBeginningAndAtTheEnd(Check check) {
        check.due("at 0", moved(check, 0, x -> {
            x.command(4);
            putsTwoIn(x);
        }), "0 2 0");
        check.due("at 8", moved(check, 8, x -> {
            x.command(5);
            putsTwoIn(x);
        }), "8 10 8");
    }

    static void addedToAStepItFollowsEveryTime(Check check) {
        check.due("at 3", moved(check, 3, x -> {
            x.type('x');
            x.type('y');
        }), "3 5 3");
    }

    // "m above p and below p + d: p"

    static void takenOutAroundIt(Check check) {
        check.due("at 4", moved(check, 4, x -> takesTwoOut(x)), "3 3 3");
    }

    static void replacedAroundIt(Check check) {
        check.due("at 3, by 17", moved(check, 3, x -> x.command(17)), "2 2 2");
    }

    // "others move by the length of s less d"

    static void takenOutUpToIt(Check check) {
        check.due("at 5", moved(check, 5, x -> takesTwoOut(x)), "3 3 3");
        check.due("at 6", moved(check, 6, x -> takesTwoOut(x)), "4 4 4");
        check.due("at 8", moved(check, 8, x -> takesTwoOut(x)), "6 6 6");
    }

    static void putInBeforeIt(Check check) {
        check.due("at 4", moved(check, 4, x -> putsTwoIn(x)), "6 6 6");
        check.due("at 8", moved(check, 8, x -> putsTwoIn(x)), "10 10 10");
    }

    static void replacedUpToIt(Check check) {
        check.due("at 4, by 17", moved(check, 4, x -> x.command(17)), "4 4 4");
        check.due("at 5, by 17", moved(check, 5, x -> x.command(17)), "5 5 5");
    }

    static void takenOutBeforePoint(Check check) {
        String[] due = {"0 0 0", "1 1 1", "1 1 1", "1 1 1", "2 2 2", "3 3 3"};
        for (int place = 0; place < due.length; place++) {
            check.due("at " + place, moved(check, place, x -> {
                x.argument(2);
                x.command(9);
            }), due[place]);
        }
    }

    /** The kills "bb" and "a"; "bb" put in at point behind "xy" of "xyz", markers at every place around it. */
    private static EditorCore yanked(Check check) {
        EditorCore x = check.start("|abbxyz");
        check.does(x, 15, 0, 11, 0, 0, 11, 0, 0, 13);
        check.due("yanked", Check.shown(x), "xy^bb|z");
        return x;
    }

    static void replacedByAShorterText(Check check) {
        EditorCore x = yanked(check);
        x.marker(0, true);
        check.does(x, 14);
        check.due("a marker behind what was put in", Check.markers(x), "3 -2 -2 -2");
        check.due("the mark is where it begins", Check.shown(x), "xy^a|z");
    }

    static void replacedByALongerText(Check check) {
        EditorCore x = yanked(check);
        check.does(x, 14);
        x.marker(0, true);
        x.marker(1, false);
        check.does(x, 14);
        check.due("markers behind what was put in", Check.markers(x), "4 4 -2 -2");
        check.due("the mark is where it begins", Check.shown(x), "xy^bb|z");
    }

    static void replacedWithMarkersWithin(Check check) {
        EditorCore x = yanked(check);
        check.does(x, 14);
        int[] places = {1, 2, 3, 4};
        for (int i = 0; i < places.length; i++) {
            check.goTo(x, places[i]);
            x.marker(i, true);
        }
        check.does(x, 19);
        check.due("undone: 1 below, 2 at, 3 and 4 behind", Check.markers(x), "1 2 4 5");
        check.goTo(x, 3);
        x.marker(0, true);
        check.does(x, 19);
        check.due("and done again: 3 within", Check.markers(x), "2 2 3 4");
    }

    static void noneStaysNone(Check check) {
        EditorCore x = check.start("ab|c");
        check.does(x, 8, 9, 9);
        check.types(x, "x");
        check.due("mark", x.info(2), -2);
        check.due("markers", Check.markers(x), "-2 -2 -2 -2");
    }

    static void everyMarkerMovesAlike(Check check) {
        EditorCore x = check.start("ab|c");
        for (int i = 0; i < 4; i++) {
            x.marker(i, true);
        }
        check.types(x, "xy");
        check.due("all follow", Check.markers(x), "4 4 4 4");
        for (int i = 0; i < 4; i++) {
            x.marker(i, false);
        }
        check.types(x, "z");
        check.due("none follows", Check.markers(x), "4 4 4 4");
        check.does(x, 4, 8);
        check.due("all move", Check.markers(x), "3 3 3 3");
    }
}
