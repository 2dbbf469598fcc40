/** Promise 3: command, 8, 9, 15 .. 18 and 20. */
public final class EditingTest {
    public static void main(String[] args) {
        Check check = new Check();
        takingOut(check);
        mark(check);
        swappingCharacters(check);
        searching(check);
        check.end();
    }

    private static void takingOut(Check check) {
        EditorCore x = check.start("abc|def/g");
        check.does(x, 8);
        check.due("8", Check.shown(x), "abc|ef/g");
        check.doesTimes(x, 3, 8);
        check.due("8 over an end of line", Check.shown(x), "abc|g");
        check.doesTimes(x, 5, 8);
        check.due("8, as many as there are", Check.shown(x), "abc|");
        check.due("argument(3)", x.argument(3), 0);
        check.due("8 at the end", x.command(8), -2);
        check.due("n stays", x.info(12), 3);
        check.due("steps", x.info(4), 4);
        check.doesTimes(x, 2, 9);
        check.due("9, twice", Check.shown(x), "a|");
        check.doesTimes(x, 9, 9);
        check.due("9, as many as there are", Check.shown(x), "|");
        check.due("9 at the beginning", x.command(9), -2);
        check.due("steps", x.info(4), 6);
        check.due("nothing is killed", x.info(3), 0);
        check.due("last command", x.info(13), 9);
        EditorCore middle = check.start("abcd|ef");
        check.doesTimes(middle, 2, 9);
        check.due("9 within the text", Check.shown(middle), "ab|ef");
    }

    private static void mark(Check check) {
        EditorCore x = check.start("ab|cd");
        check.due("16 without a mark", x.command(16), -2);
        check.due("last command", x.info(13), 1);
        check.does(x, 15);
        check.due("15", Check.shown(x), "ab^|cd");
        check.does(x, 0, 16);
        check.due("16", Check.shown(x), "ab|c^d");
        check.does(x, 16);
        check.due("16 again", Check.shown(x), "ab^c|d");
        check.does(x, 18);
        check.due("18", Check.shown(x), "|abcd^");
        check.does(x, 16, 15);
        check.due("15 anew", Check.shown(x), "abcd^|");
        check.due("steps", x.info(4), 1);
        EditorCore empty = new EditorCore();
        check.does(empty, 18, 16);
        check.due("18 in an empty text", Check.shown(empty), "^|");
    }

    private static void swappingCharacters(Check check) {
        EditorCore x = check.start("abc/|");
        check.due("17 at the end", x.command(17), -2);
        check.does(x, 1, 17);
        check.due("17", Check.shown(x), "ab/c|");
        check.goTo(x, 1);
        check.doesTimes(x, 2, 17);
        check.due("17 knows no n", Check.shown(x), "ba|/c");
        check.goTo(x, 0);
        check.due("17 at the beginning", x.command(17), -2);
        check.due("steps", x.info(4), 3);
        EditorCore alike = check.start("a|a");
        check.does(alike, 17);
        check.due("two that are the same", Check.shown(alike), "aa|");
        check.due("make a step too", alike.info(4), 2);
        EditorCore places = check.start("ab|cd");
        check.does(places, 15);
        check.due("marker 0 at point", places.marker(0, true), 0);
        check.goTo(places, 1);
        check.due("marker 1 before", places.marker(1, true), 0);
        check.goTo(places, 3);
        check.due("marker 2 behind", places.marker(2, false), 0);
        check.goTo(places, 2);
        check.does(places, 17);
        check.due("places of an edit of two", Check.shown(places), "a^cb|d");
        check.due("markers of an edit of two", Check.markers(places), "1 1 3 -2");
    }

    private static void searching(Check check) {
        EditorCore x = check.start("aab aab|");
        check.due("20 without a kill", x.command(20), -2);
        check.does(x, 15, 1, 1, 12);
        check.due("the kill", Check.kills(x), "ab");
        check.goTo(x, 0);
        check.does(x, 20);
        check.due("20", Check.shown(x), "aab| aab^");
        check.does(x, 20);
        check.due("20 again", Check.shown(x), "aab aab^|");
        check.due("20 behind the last", x.command(20), -2);
        check.due("point stays", x.info(1), 7);
        check.goTo(x, 1);
        check.doesTimes(x, 9, 20);
        check.due("20 at point, without n", Check.shown(x), "aab| aab^");
        check.goTo(x, 6);
        check.due("20 within the last", x.command(20), -2);
        check.goTo(x, 4);
        check.due("steps", x.info(4), 1);
        EditorCore whole = check.start("xyz|");
        check.does(whole, 18, 12, 20);
        check.due("20 for the whole text", Check.shown(whole), "xyz^|");
        check.does(whole, 18, 11);
        check.due("20 for more than the text", whole.command(20), -2);
        EditorCore lines = check.start("a/b|");
        check.does(lines, 18, 12);
        check.types(lines, "a/");
        check.does(lines, 20);
        check.due("20 over an end of line", Check.shown(lines), "a/a/b^|");
    }
}
