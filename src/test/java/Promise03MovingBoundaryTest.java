/** Promise 3, command 0 .. 7: the boundary cases. Behind each sentence of the document stand its cases. */
public final class Promise03MovingBoundaryTest {
    public static void main(String[] args) throws IllegalAccessException {
        Cases.run(Promise03MovingBoundaryTest.class);
    }

    /** Does a command n times in a text and compares. */
    private static void moves(Check check, String from, int n, int number, String to) {
        EditorCore x = check.start(from);
        check.doesTimes(x, n, number);
        check.due(from + " by " + n + " times " + number, Check.shown(x), to);
    }

    // "0, 1: POINT n places on (back), or to the end (beginning)."

    static void onToExactlyTheEnd(Check check) {
        moves(check, "ab|cde", 3, 0, "abcde|");
    }

    static void onBeyondTheEnd(Check check) {
        moves(check, "ab|cde", 4, 0, "abcde|");
        moves(check, "ab|cde", 9, 0, "abcde|");
    }

    static void onAtTheEnd(Check check) {
        moves(check, "ab|", 1, 0, "ab|");
        moves(check, "|", 9, 0, "|");
    }

    static void onOverAnEndOfLine(Check check) {
        moves(check, "ab|/cd", 1, 0, "ab/|cd");
    }

    static void backToExactlyTheBeginning(Check check) {
        moves(check, "abc|de", 3, 1, "|abcde");
    }

    static void backBeyondTheBeginning(Check check) {
        moves(check, "abc|de", 4, 1, "|abcde");
        moves(check, "abc|de", 9, 1, "|abcde");
    }

    static void backAtTheBeginning(Check check) {
        moves(check, "|ab", 1, 1, "|ab");
        moves(check, "|", 9, 1, "|");
    }

    static void onAndBackInAFullText(Check check) {
        EditorCore x = new EditorCore();
        check.fills(x, 'a', 100);
        check.doesTimes(x, 9, 0);
        check.due("point", x.info(1), 100);
        check.doesTimes(x, 9, 1);
        check.due("point", x.info(1), 91);
    }

    // "2, 3: POINT to the line n below (above), or the last (first) one"

    static void downToExactlyTheLastLine(Check check) {
        moves(check, "a|b/cd/ef", 2, 2, "ab/cd/e|f");
    }

    static void downBeyondTheLastLine(Check check) {
        moves(check, "a|b/cd/ef", 3, 2, "ab/cd/e|f");
        moves(check, "a|b/cd/ef", 9, 2, "ab/cd/e|f");
    }

    static void downInTheLastLine(Check check) {
        moves(check, "ab/c|d", 1, 2, "ab/c|d");
        moves(check, "a|b", 9, 2, "a|b");
        moves(check, "|", 1, 2, "|");
    }

    static void upToExactlyTheFirstLine(Check check) {
        moves(check, "ab/cd/e|f", 2, 3, "a|b/cd/ef");
    }

    static void upBeyondTheFirstLine(Check check) {
        moves(check, "ab/cd/e|f", 3, 3, "a|b/cd/ef");
        moves(check, "ab/cd/e|f", 9, 3, "a|b/cd/ef");
    }

    static void upInTheFirstLine(Check check) {
        moves(check, "a|b/cd", 1, 3, "a|b/cd");
        moves(check, "a|b", 9, 3, "a|b");
        moves(check, "|", 1, 3, "|");
    }

    static void downToAnEmptyLastLine(Check check) {
        moves(check, "ab|c/", 1, 2, "abc/|");
        moves(check, "ab|c//", 9, 2, "abc//|");
    }

    static void upToAnEmptyFirstLine(Check check) {
        moves(check, "/ab|c", 1, 3, "|/abc");
    }

    static void overEmptyLines(Check check) {
        moves(check, "|///a", 2, 2, "//|/a");
        moves(check, "///|a", 2, 3, "/|//a");
    }

    // "at the GOAL COLUMN or the line's end if it is shorter"

    static void aLineAsLongAsTheGoal(Check check) {
        moves(check, "ab|cd/ef/g", 1, 2, "abcd/ef|/g");
        moves(check, "ab/cd|ef", 1, 3, "ab|/cdef");
    }

    static void aLineShorterThanTheGoal(Check check) {
        moves(check, "abc|d/ef/g", 1, 2, "abcd/ef|/g");
        moves(check, "ab/cde|f", 1, 3, "ab|/cdef");
    }

    static void aLineLongerThanTheGoal(Check check) {
        moves(check, "a|b/cdef", 1, 2, "ab/c|def");
        moves(check, "abcd/e|f", 1, 3, "a|bcd/ef");
    }

    static void theGoalAtALinesEndIsItsColumn(Check check) {
        moves(check, "ab|/cdef", 1, 2, "ab/cd|ef");
    }

    // "the GOAL COLUMN is POINT's COLUMN, or, if the LAST COMMAND was 2 or 3, what it was for that"

    static void theGoalStaysOverShorterLines(Check check) {
        EditorCore x = check.start("abcd|e/f//ghijkl");
        check.does(x, 2);
        check.due("shorter", Check.shown(x), "abcde/f|//ghijkl");
        check.does(x, 2);
        check.due("empty", Check.shown(x), "abcde/f/|/ghijkl");
        check.does(x, 2);
        check.due("long", Check.shown(x), "abcde/f//ghij|kl");
        check.doesTimes(x, 3, 3);
        check.due("back", Check.shown(x), "abcd|e/f//ghijkl");
    }

    static void theGoalStaysWhereThereIsNoLineMore(Check check) {
        EditorCore x = check.start("abc|/d");
        check.does(x, 2, 2, 2);
        check.due("down", Check.shown(x), "abc/d|");
        check.does(x, 3);
        check.due("up", Check.shown(x), "abc|/d");
        EditorCore y = check.start("a/bcd|");
        check.does(y, 3, 3);
        check.due("up", Check.shown(y), "a|/bcd");
        check.does(y, 2);
        check.due("down", Check.shown(y), "a/bcd|");
    }

    static void everyOtherCommandTakesTheGoalAnew(Check check) {
        for (int number : new int[] {0, 1, 4, 5, 6, 7, 8, 9, 10, 12, 15, 16, 17, 20}) {
            EditorCore x = check.start("abcdef/ab/ab|cdef");
            check.does(x, 15, 5, 12, 3);
            check.due("at a short line's end", x.info(1), 9);
            x.command(number);
            int column = columnOf(x);
            check.does(x, 2);
            int length = x.info(0);
            check.due("behind " + number, columnOf(x), Math.min(column, lastLineLength(x, length)));
        }
    }

    private static int columnOf(EditorCore x) {
        int column = 0;
        for (int place = x.info(1); place > 0 && x.character(place - 1) != 10; place--) {
            column++;
        }
        return column;
    }

    private static int lastLineLength(EditorCore x, int length) {
        int count = 0;
        while (count < length && x.character(length - 1 - count) != 10) {
            count++;
        }
        return count;
    }

    static void anInsertTakesTheGoalAnew(Check check) {
        EditorCore x = check.start("abcdef/g/hijklm|");
        check.does(x, 3);
        check.types(x, "x");
        check.does(x, 3);
        check.due("column 2", Check.shown(x), "ab|cdef/gx/hijklm");
    }

    static void whatIsNotDoneKeepsTheGoal(Check check) {
        EditorCore x = check.start("abcdef/g/hijkl|m");
        check.does(x, 3);
        check.answers(x, 13, -2);
        check.answers(x, 14, -2);
        check.answers(x, 16, -2);
        check.answers(x, 20, -2);
        check.answers(x, 21, -2);
        check.answers(x, 22, -1);
        check.due("type(33)", x.type(33), -1);
        check.presses(x, 0, -4);
        check.sets(x, 1);
        x.marker(0, true);
        x.frame(4, 4);
        check.does(x, 3);
        check.due("column 5", Check.shown(x), "abcde|f/g/hijklm");
    }

    static void aGoalOfZero(Check check) {
        EditorCore x = check.start("abc/def/|ghi");
        check.does(x, 3, 3, 2);
        check.due("column 0", Check.shown(x), "abc/|def/ghi");
    }

    // "4, 5: POINT to its line's beginning (end)."

    static void theBeginningOfEveryKindOfLine(Check check) {
        moves(check, "ab|c", 1, 4, "|abc");
        moves(check, "|abc", 1, 4, "|abc");
        moves(check, "abc|/de", 1, 4, "|abc/de");
        moves(check, "abc/|de", 1, 4, "abc/|de");
        moves(check, "abc/de|", 1, 4, "abc/|de");
        moves(check, "abc/|/de", 1, 4, "abc/|/de");
        moves(check, "abc/|", 1, 4, "abc/|");
        moves(check, "|", 1, 4, "|");
    }

    static void theEndOfEveryKindOfLine(Check check) {
        moves(check, "|abc", 1, 5, "abc|");
        moves(check, "abc|", 1, 5, "abc|");
        moves(check, "|abc/de", 1, 5, "abc|/de");
        moves(check, "abc|/de", 1, 5, "abc|/de");
        moves(check, "abc/|de", 1, 5, "abc/de|");
        moves(check, "abc/|/de", 1, 5, "abc/|/de");
        moves(check, "abc/|", 1, 5, "abc/|");
        moves(check, "|", 1, 5, "|");
    }

    // "6: n times: POINT behind all that are not letters, then behind all letters that stand there."

    static void behindTheWordThatPointIsIn(Check check) {
        moves(check, "a|bc de", 1, 6, "abc| de");
        moves(check, "|abc de", 1, 6, "abc| de");
    }

    static void behindBlanksAndEndsOfLineAndTheNextWord(Check check) {
        moves(check, "abc|  / /de f", 1, 6, "abc  / /de| f");
    }

    static void behindTheLastWord(Check check) {
        moves(check, "ab |cd", 1, 6, "ab cd|");
        moves(check, "|ab cd", 2, 6, "ab cd|");
    }

    static void moreWordsThanThereAre(Check check) {
        moves(check, "|ab cd", 3, 6, "ab cd|");
        moves(check, "|ab cd  ", 9, 6, "ab cd  |");
    }

    static void toTheEndWithoutAWord(Check check) {
        moves(check, "ab| / ", 1, 6, "ab / |");
        moves(check, "ab|", 1, 6, "ab|");
        moves(check, "|", 9, 6, "|");
    }

    static void theFirstAndTheLastLetterAreLetters(Check check) {
        moves(check, "|a z", 1, 6, "a| z");
        moves(check, "a| z", 1, 6, "a z|");
        moves(check, "a z|", 1, 7, "a |z");
        moves(check, "a |z", 1, 7, "|a z");
    }

    // "7: the same, backwards, before them."

    static void beforeTheWordThatPointIsIn(Check check) {
        moves(check, "ab cd|e", 1, 7, "ab |cde");
        moves(check, "ab cde|", 1, 7, "ab |cde");
    }

    static void beforeBlanksAndEndsOfLineAndTheWordBefore(Check check) {
        moves(check, "a bc  / /|de", 1, 7, "a |bc  / /de");
    }

    static void beforeTheFirstWord(Check check) {
        moves(check, "ab| cd", 1, 7, "|ab cd");
        moves(check, " ab| cd", 1, 7, " |ab cd");
    }

    static void moreWordsBeforeThanThereAre(Check check) {
        moves(check, "ab cd|", 3, 7, "|ab cd");
        moves(check, "  ab cd|", 9, 7, "|  ab cd");
    }

    static void toTheBeginningWithoutAWord(Check check) {
        moves(check, " / |ab", 1, 7, "| / ab");
        moves(check, "|ab", 1, 7, "|ab");
        moves(check, "|", 9, 7, "|");
    }

    static void movingIsNoEdit(Check check) {
        for (int number = 0; number <= 7; number++) {
            EditorCore x = check.start("ab/c|d/ef");
            check.due("marker", x.marker(0, true), 0);
            check.does(x, 15, number);
            check.due("steps behind " + number, x.info(4), 1);
            check.due("mark behind " + number, x.info(2), 4);
            check.due("marker behind " + number, x.markerAt(0), 4);
        }
    }
}
