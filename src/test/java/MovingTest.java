/** Promise 3: command, 0 .. 7, and the numbers that are no command's. */
public final class MovingTest {
    public static void main(String[] args) {
        Check check = new Check();
        numbers(check);
        places(check);
        lines(check);
        goalColumn(check);
        lineEnds(check);
        words(check);
        check.end();
    }

    private static void numbers(Check check) {
        EditorCore x = check.start("ab|c");
        check.due("argument(4)", x.argument(4), 0);
        for (int number : new int[] {Integer.MIN_VALUE, -1, 22, 23, 100, 1000, Integer.MAX_VALUE}) {
            check.due("command(" + number + ")", x.command(number), -1);
        }
        check.due("nothing changed", Check.shown(x), "ab|c");
        check.due("n", x.info(12), 4);
        check.due("last command", x.info(13), 1);
        for (int number : new int[] {0, 1, 2, 3, 4, 5, 6, 7, 15, 18}) {
            check.due("argument(2)", x.argument(2), 0);
            check.does(x, number);
            check.due("last command", x.info(13), number);
            check.due("n after " + number, x.info(12), 1);
        }
    }

    private static void places(Check check) {
        EditorCore x = check.start("abc/ef|");
        check.does(x, 0);
        check.due("0 at the end", Check.shown(x), "abc/ef|");
        check.does(x, 1);
        check.due("1", Check.shown(x), "abc/e|f");
        check.doesTimes(x, 3, 1);
        check.due("1, 3 times", Check.shown(x), "ab|c/ef");
        check.doesTimes(x, 9, 1);
        check.due("1 beyond the beginning", Check.shown(x), "|abc/ef");
        check.does(x, 1);
        check.due("1 at the beginning", Check.shown(x), "|abc/ef");
        check.does(x, 0);
        check.due("0", Check.shown(x), "a|bc/ef");
        check.doesTimes(x, 4, 0);
        check.due("0, 4 times", Check.shown(x), "abc/e|f");
        check.doesTimes(x, 2, 0);
        check.due("0 beyond the end", Check.shown(x), "abc/ef|");
        check.due("steps", x.info(4), 1);
    }

    private static void lines(Check check) {
        EditorCore x = check.start("abc/de//fg|h");
        check.does(x, 3);
        check.due("3 to an empty line", Check.shown(x), "abc/de/|/fgh");
        check.doesTimes(x, 2, 3);
        check.due("3, twice", Check.shown(x), "ab|c/de//fgh");
        check.does(x, 3);
        check.due("3 in the first line", Check.shown(x), "ab|c/de//fgh");
        check.doesTimes(x, 9, 2);
        check.due("2 beyond the last line", Check.shown(x), "abc/de//fg|h");
        check.doesTimes(x, 3, 3);
        check.due("3, 3 times", Check.shown(x), "ab|c/de//fgh");
        check.does(x, 2);
        check.due("2 to the line's end", Check.shown(x), "abc/de|//fgh");
        check.doesTimes(x, 2, 2);
        check.due("2, twice", Check.shown(x), "abc/de//fg|h");
        EditorCore ends = check.start("abc/|");
        check.does(ends, 3, 2);
        check.due("down to an empty last line", Check.shown(ends), "abc/|");
    }

    private static void goalColumn(Check check) {
        EditorCore x = check.start("abcdef/gh/ijklm|n");
        check.does(x, 3, 3);
        check.due("the goal stays over a short line", Check.shown(x), "abcde|f/gh/ijklmn");
        check.does(x, 2, 2);
        check.due("and downwards", Check.shown(x), "abcdef/gh/ijklm|n");
        check.does(x, 3, 5, 3);
        check.due("another command takes the goal anew", Check.shown(x), "ab|cdef/gh/ijklmn");
        check.does(x, 2, 2);
        check.due("from the new column", Check.shown(x), "abcdef/gh/ij|klmn");
        EditorCore kept = check.start("abcdef/gh/ijklm|n");
        check.does(kept, 3);
        check.due("20 is not done", kept.command(20), -2);
        check.due("press is not done", kept.press(3), -4);
        check.due("marker", kept.marker(0, true), 0);
        check.due("argument", kept.argument(1), 0);
        check.does(kept, 3);
        check.due("what is not done keeps the goal", Check.shown(kept), "abcde|f/gh/ijklmn");
        EditorCore last = check.start("abcd|/e");
        check.does(last, 2, 2, 3);
        check.due("the goal stays at the last line", Check.shown(last), "abcd|/e");
        check.does(last, 4, 2, 3);
        check.due("a goal of 0", Check.shown(last), "|abcd/e");
    }

    private static void lineEnds(Check check) {
        EditorCore x = check.start("abc/d|ef/ghi");
        check.does(x, 4);
        check.due("4", Check.shown(x), "abc/|def/ghi");
        check.does(x, 4);
        check.due("4 again", Check.shown(x), "abc/|def/ghi");
        check.doesTimes(x, 3, 5);
        check.due("5", Check.shown(x), "abc/def|/ghi");
        check.does(x, 5);
        check.due("5 again", Check.shown(x), "abc/def|/ghi");
        check.does(x, 0, 5);
        check.due("5 in the last line", Check.shown(x), "abc/def/ghi|");
        check.goTo(x, 2);
        check.does(x, 4);
        check.due("4 in the first line", Check.shown(x), "|abc/def/ghi");
    }

    private static void words(Check check) {
        EditorCore x = check.start("| ab/ cd e");
        check.does(x, 6);
        check.due("6", Check.shown(x), " ab|/ cd e");
        check.does(x, 6);
        check.due("6 over an end of line", Check.shown(x), " ab/ cd| e");
        check.does(x, 1, 6);
        check.due("6 within a word", Check.shown(x), " ab/ cd| e");
        check.doesTimes(x, 5, 6);
        check.due("6 to the end", Check.shown(x), " ab/ cd e|");
        check.does(x, 6);
        check.due("6 at the end", Check.shown(x), " ab/ cd e|");
        check.does(x, 7);
        check.due("7", Check.shown(x), " ab/ cd |e");
        check.doesTimes(x, 2, 7);
        check.due("7, twice", Check.shown(x), " |ab/ cd e");
        check.does(x, 7);
        check.due("7 before the first word", Check.shown(x), "| ab/ cd e");
        check.does(x, 7);
        check.due("7 at the beginning", Check.shown(x), "| ab/ cd e");
        check.doesTimes(x, 2, 6);
        check.due("6, twice", Check.shown(x), " ab/ cd| e");
        EditorCore shorter = check.start("abc|");
        check.does(shorter, 9, 1, 6);
        check.due("6 to the end of a text that was longer", Check.shown(shorter), "ab|");
        EditorCore blanks = check.start("a| / ");
        check.does(blanks, 6);
        check.due("6 without another word", Check.shown(blanks), "a / |");
        check.does(blanks, 7);
        check.due("7 back over blanks", Check.shown(blanks), "|a / ");
    }
}
