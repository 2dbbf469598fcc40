/** Promise 3: command, 10 .. 14. */
public final class KillingTest {
    public static void main(String[] args) {
        Check check = new Check();
        killingLines(check);
        killingRegions(check);
        joining(check);
        fourAreKept(check);
        yanking(check);
        yankingOlder(check);
        yankingMovesMarkers(check);
        yankingWhenFull(check);
        check.end();
    }

    private static void killingLines(Check check) {
        EditorCore x = check.start("ab|cd/ef");
        check.doesTimes(x, 3, 10);
        check.due("10 knows no n", Check.shown(x), "ab|/ef");
        check.due("the kill", Check.kills(x), "cd");
        check.does(x, 10);
        check.due("10 at the line's end", Check.shown(x), "ab|ef");
        check.due("the kill", Check.kills(x), "cd/");
        check.does(x, 10);
        check.due("10 in the last line", Check.shown(x), "ab|");
        check.due("the kill", Check.kills(x), "cd/ef");
        check.due("10 at the end", x.command(10), -2);
        check.due("the kill", Check.kills(x), "cd/ef");
        check.due("steps", x.info(4), 4);
        EditorCore empty = new EditorCore();
        check.due("10 in an empty text", empty.command(10), -2);
        check.due("kills", empty.info(3), 0);
    }

    private static void killingRegions(Check check) {
        EditorCore x = check.start("ab|cdef");
        check.due("11 without a mark", x.command(11), -2);
        check.due("12 without a mark", x.command(12), -2);
        check.does(x, 15);
        check.due("11 with mark at point", x.command(11), -2);
        check.due("12 with mark at point", x.command(12), -2);
        check.does(x, 0, 0, 12);
        check.due("12", Check.shown(x), "ab^cd|ef");
        check.due("12", Check.kills(x), "cd");
        check.due("12 makes no step", x.info(4), 1);
        check.due("last command", x.info(13), 12);
        check.does(x, 11);
        check.due("11", Check.shown(x), "ab^|ef");
        check.due("11 makes a new kill", Check.kills(x), "cd,cd");
        check.due("11 makes a step", x.info(4), 2);
        check.does(x, 5, 16, 11);
        check.due("11 with the mark behind", Check.shown(x), "ab^|");
        check.due("11 with the mark behind", Check.kills(x), "ef,cd,cd");
        check.does(x, 4, 11);
        check.due("11 of all", Check.shown(x), "^|");
    }

    private static void joining(Check check) {
        EditorCore x = check.start("|ab/cd/ef/gh");
        check.does(x, 10, 10);
        check.due("10, 10", Check.kills(x), "ab/");
        check.does(x, 15, 0, 11);
        check.due("11 is a new one", Check.kills(x), "c,ab/");
        check.does(x, 10);
        check.due("10 behind 11", Check.kills(x), "cd,ab/");
        check.does(x, 0, 1, 10);
        check.due("10 behind another command", Check.kills(x), "/,cd,ab/");
        check.due("what is refused", x.command(77), -1);
        check.due("and what has nothing to do", x.command(16), 0);
        check.does(x, 10);
        check.due("16 parts", Check.kills(x), "ef,/,cd,ab/");
        check.due("22", x.command(22), -1);
        check.due("type(0)", x.type(0), -1);
        check.due("14", x.command(14), -2);
        check.does(x, 10);
        check.due("what is not done does not part", Check.kills(x), "ef/,/,cd,ab/");
        EditorCore eleven = check.start("|abcd");
        check.does(eleven, 15, 0, 11, 0, 11);
        check.due("11 behind 0", Check.kills(eleven), "b,a");
        EditorCore twice = check.start("|ab/cd");
        check.does(twice, 18, 16, 1, 15, 16, 10);
        check.due("the mark stays a place", Check.kills(twice), "d");
        EditorCore copied = check.start("|ab/cd");
        check.does(copied, 15, 0, 12, 10);
        check.due("10 behind 12", Check.kills(copied), "b,a");
        EditorCore elevenAfterTen = check.start("|ab/cd");
        check.does(elevenAfterTen, 15, 0, 10, 11);
        check.due("11 behind 10", Check.kills(elevenAfterTen), "a,b");
    }

    private static void fourAreKept(Check check) {
        EditorCore x = check.start("|abcdef");
        for (int i = 1; i <= 6; i++) {
            check.does(x, 15, 0, 11);
            check.due("kills", x.info(3), Math.min(i, 4));
        }
        check.due("the four newest", Check.kills(x), "f,e,d,c");
        check.due("the text", Check.shown(x), "^|");
        EditorCore full = new EditorCore();
        for (int i = 0; i < 11; i++) {
            full.argument(9);
            full.type(97 + i);
        }
        check.types(full, "z");
        check.does(full, 18, 11);
        check.due("a kill of 100", full.killed(0, 99), 122);
        check.due("no more of it", full.killed(0, 100), 0);
        check.does(full, 13);
        check.due("comes again", full.info(0), 100);
        check.due("its last", full.character(99), 122);
    }

    private static void yanking(Check check) {
        EditorCore x = check.start("ab|cd");
        check.due("13 without a kill", x.command(13), -2);
        check.due("14 at first", x.command(14), -2);
        check.due("mark", x.info(2), -2);
        check.does(x, 10, 4);
        check.doesTimes(x, 5, 13);
        check.due("13 knows no n", Check.shown(x), "^cd|ab");
        check.does(x, 13);
        check.due("13 again", Check.shown(x), "cd^cd|ab");
        check.due("the kill stays", Check.kills(x), "cd");
        check.due("steps", x.info(4), 4);
    }

    private static void yankingOlder(Check check) {
        EditorCore x = check.start("|abbccc/");
        check.does(x, 15, 0, 11, 0, 0, 11, 10);
        check.due("kills", Check.kills(x), "bbccc,a");
        check.does(x, 15);
        check.due("14 behind 15", x.command(14), -2);
        check.does(x, 13);
        check.due("13", Check.shown(x), "^bbccc|/");
        check.does(x, 14);
        check.due("14", Check.shown(x), "^a|/");
        check.does(x, 14);
        check.due("14, the newest again", Check.shown(x), "^bbccc|/");
        check.does(x, 14);
        check.due("14, the oldest again", Check.shown(x), "^a|/");
        check.due("last command", x.info(13), 14);
        check.due("the kills stay", Check.kills(x), "bbccc,a");
        check.due("every one is a step", x.info(4), 8);
        check.does(x, 13);
        check.due("13 takes the newest", Check.shown(x), "a^bbccc|/");
        check.does(x, 14, 4);
        check.due("14 behind 4", x.command(14), -2);
        EditorCore one = check.start("|ab");
        check.does(one, 10, 13, 14);
        check.due("14 with one kill", Check.shown(one), "^ab|");
        check.due("is a step too", one.info(4), 4);
    }

    private static void yankingMovesMarkers(Check check) {
        EditorCore x = check.start("|abbccc/");
        check.does(x, 15, 0, 11, 0, 0, 11, 10);
        check.due("marker(0, true)", x.marker(0, true), 0);
        check.due("marker(1, false)", x.marker(1, false), 0);
        check.does(x, 13);
        check.due("markers behind 13", Check.markers(x), "5 0 -2 -2");
        check.due("marker(2, true)", x.marker(2, true), 0);
        check.due("marker(3, false)", x.marker(3, false), 0);
        check.does(x, 14);
        check.due("markers behind 14", Check.markers(x), "1 0 1 1");
    }

    /** A text of so many characters, point at its end, and the kills "b" and 36 times "a". */
    private static EditorCore withTwoKills(Check check, int length) {
        EditorCore x = new EditorCore();
        for (int i = 0; i < 4; i++) {
            check.due("argument(9)", x.argument(9), 0);
            check.types(x, "a");
        }
        check.does(x, 18, 12);
        check.types(x, "b");
        check.does(x, 15, 1, 12, 5);
        while (x.info(0) < length) {
            check.due("argument", x.argument(Math.min(9, length - x.info(0))), 0);
            check.types(x, "c");
        }
        return x;
    }

    private static void yankingWhenFull(Check check) {
        EditorCore x = withTwoKills(check, 65);
        check.does(x, 13);
        check.due("length", x.info(0), 66);
        check.due("argument(4)", x.argument(4), 0);
        check.due("14 to 101", x.command(14), -3);
        check.due("length", x.info(0), 66);
        check.due("point", x.info(1), 66);
        check.due("mark", x.info(2), 65);
        check.due("n", x.info(12), 4);
        check.due("last command", x.info(13), 13);
        check.doesTimes(x, 2, 9);
        check.does(x, 13, 14);
        check.due("14 to 100", x.info(0), 100);
        check.due("mark", x.info(2), 64);
        check.does(x, 14);
        check.due("14 back", x.info(0), 65);
        EditorCore full = withTwoKills(check, 99);
        check.does(full, 13);
        check.due("13 to 100", full.info(0), 100);
        int steps = full.info(4);
        check.due("13 to 101", full.command(13), -3);
        check.due("steps", full.info(4), steps);
        check.due("mark", full.info(2), 99);
        check.due("14 to 135", full.command(14), -3);
        check.due("14 to 135 again", full.command(14), -3);
        check.due("length", full.info(0), 100);
    }
}
