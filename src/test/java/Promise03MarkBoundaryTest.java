/** Promise 3, command 15 .. 18 and 20: the boundary cases. Behind each sentence of the document stand its cases. */
public final class Promise03MarkBoundaryTest {
    public static void main(String[] args) throws IllegalAccessException {
        Cases.run(Promise03MarkBoundaryTest.class);
    }

    private static void does(Check check, String from, int number, String to) {
        EditorCore x = check.start(from);
        check.does(x, number);
        check.due(from + " by " + number, Check.shown(x), to);
    }

    // "15: MARK becomes POINT."

    static void theMarkAtTheBeginningAndAtTheEnd(Check check) {
        does(check, "|ab", 15, "^|ab");
        does(check, "ab|", 15, "ab^|");
        does(check, "|", 15, "^|");
    }

    static void theMarkAgainElsewhere(Check check) {
        EditorCore x = check.start("ab|c");
        check.does(x, 15, 1, 15);
        check.due("mark", Check.shown(x), "a^|bc");
    }

    // "16: MARK and POINT change places"

    static void changedTwiceIsAsBefore(Check check) {
        EditorCore x = check.start("|abc");
        check.does(x, 15, 5, 16);
        check.due("once", Check.shown(x), "|abc^");
        check.does(x, 16);
        check.due("twice", Check.shown(x), "^abc|");
    }

    static void changedAtTheSamePlaceIsDone(Check check) {
        EditorCore x = check.start("a|b");
        check.does(x, 15, 16);
        check.due("16", Check.shown(x), "a^|b");
        check.due("last command", x.info(13), 16);
    }

    // "no MARK: NOTHING"

    static void withoutMarkNothing(Check check) {
        Twins.unchanged(check, () -> {
            EditorCore x = check.start("a|b");
            check.sets(x, 3);
            return x;
        }, "command(16)", x -> x.command(16), -2);
        Twins.unchanged(check, EditorCore::new, "command(16)", x -> x.command(16), -2);
    }

    // "17: the characters before and behind POINT change places, POINT goes behind both"

    static void theFirstTwoAndTheLastTwo(Check check) {
        does(check, "a|bcd", 17, "ba|cd");
        does(check, "abc|d", 17, "abdc|");
        does(check, "a|b", 17, "ba|");
    }

    static void anEndOfLineChangesToo(Check check) {
        does(check, "a|/b", 17, "/a|b");
        does(check, "a/|b", 17, "ab/|");
    }

    static void twoThatAreTheSameAreAStep(Check check) {
        EditorCore x = check.start("a|a");
        check.does(x, 17);
        check.due("17", Check.shown(x), "aa|");
        check.due("steps", x.info(4), 2);
    }

    static void inAFullText(Check check) {
        EditorCore x = new EditorCore();
        check.fills(x, 'a', 99);
        check.types(x, "b");
        check.does(x, 1, 17);
        check.due("the last", x.character(99), 'a');
        check.due("the one before", x.character(98), 'b');
        check.due("length", x.info(0), 100);
    }

    // "one is not there: NOTHING"

    static void noneBeforeIsNothing(Check check) {
        Twins.unchanged(check, () -> {
            EditorCore x = check.start("ab|c");
            check.does(x, 15, 4);
            check.sets(x, 2);
            return x;
        }, "command(17)", x -> x.command(17), -2);
    }

    static void noneBehindIsNothing(Check check) {
        Twins.unchanged(check, () -> {
            EditorCore x = check.start("ab|c");
            check.does(x, 15, 5);
            check.sets(x, 2);
            return x;
        }, "command(17)", x -> x.command(17), -2);
    }

    static void neitherIsNothing(Check check) {
        Twins.unchanged(check, EditorCore::new, "command(17)", x -> x.command(17), -2);
        Twins.unchanged(check, () -> check.start("|a"), "command(17)", x -> x.command(17), -2);
        Twins.unchanged(check, () -> check.start("a|"), "command(17)", x -> x.command(17), -2);
    }

    // "18: POINT becomes 0 and MARK the end of the text."

    static void allIsMarked(Check check) {
        does(check, "a|b/c", 18, "|ab/c^");
        does(check, "ab/c|", 18, "|ab/c^");
        does(check, "|", 18, "^|");
        EditorCore x = new EditorCore();
        check.fills(x, 'a', 100);
        check.does(x, 18);
        check.due("mark", x.info(2), 100);
        check.due("point", x.info(1), 0);
    }

    /** A text, point in it, and a kill. */
    private static EditorCore seeking(Check check, String kill, String letters) {
        EditorCore x = check.start(kill);
        check.does(x, 18, 11);
        check.types(x, letters.replace("|", ""));
        check.goTo(x, letters.indexOf('|'));
        return x;
    }

    private static void finds(Check check, String kill, String from, String to) {
        EditorCore x = seeking(check, kill, from);
        check.does(x, 20);
        check.due(kill + " in " + from, Check.shown(x).replace("^", ""), to);
    }

    // "20: POINT goes behind the next place where the newest KILL stands in the text, at POINT or behind it"

    static void atPointItself(Check check) {
        finds(check, "ab", "|abab", "ab|ab");
        finds(check, "ab", "x|abab", "xab|ab");
    }

    static void oneBehindPoint(Check check) {
        finds(check, "ab", "|xab", "xab|");
    }

    static void atTheVeryEnd(Check check) {
        finds(check, "b", "aaa|ab", "aaaab|");
        finds(check, "ab", "aaa|ab", "aaaab|");
    }

    static void theWholeText(Check check) {
        finds(check, "a/b", "|a/b", "a/b|");
    }

    static void behindAPartThatIsLikeIt(Check check) {
        finds(check, "aab", "|aaab", "aaab|");
        finds(check, "aa", "a|aaa", "aaa|a");
    }

    static void theOneBeforePointIsNotFound(Check check) {
        finds(check, "ab", "ab|xab", "abxab|");
        finds(check, "ab", "a|bxab", "abxab|");
    }

    static void theNewestKillIsSought(Check check) {
        EditorCore x = check.start("|ab");
        check.does(x, 15, 0, 11, 0, 11);
        check.due("kills", Check.kills(x), "b,a");
        check.types(x, "xab");
        check.does(x, 4, 20);
        check.due("20", x.info(1), 3);
    }

    static void inAFullTextAtItsEnd(Check check) {
        EditorCore x = check.start("ab");
        check.does(x, 18, 11);
        check.fills(x, 'a', 99);
        check.types(x, "b");
        check.does(x, 4, 20);
        check.due("20", x.info(1), 100);
        check.answers(x, 20, -2);
    }

    // "no KILL, or none: NOTHING"

    static void withoutAKillNothing(Check check) {
        Twins.unchanged(check, () -> check.start("a|b"), "command(20)", x -> x.command(20), -2);
        Twins.unchanged(check, EditorCore::new, "command(20)", x -> x.command(20), -2);
    }

    static void notInTheTextNothing(Check check) {
        Twins.unchanged(check, () -> seeking(check, "ab", "|axb"), "command(20)", x -> x.command(20), -2);
    }

    static void beforePointAloneNothing(Check check) {
        Twins.unchanged(check, () -> seeking(check, "ab", "ab|"), "command(20)", x -> x.command(20), -2);
        Twins.unchanged(check, () -> seeking(check, "ab", "a|b"), "command(20)", x -> x.command(20), -2);
    }

    static void aBeginningOfItAtTheEndIsNothing(Check check) {
        Twins.unchanged(check, () -> seeking(check, "abc", "|xab"), "command(20)", x -> x.command(20), -2);
    }

    static void longerThanTheTextNothing(Check check) {
        Twins.unchanged(check, () -> seeking(check, "abc", "|ab"), "command(20)", x -> x.command(20), -2);
        Twins.unchanged(check, () -> seeking(check, "abc", "|"), "command(20)", x -> x.command(20), -2);
    }

    static void whatWasTakenOutIsNotFound(Check check) {
        EditorCore x = seeking(check, "ab", "xab|");
        check.does(x, 9, 4);
        check.answers(x, 20, -2);
    }

    static void makesNoStepAndNoMark(Check check) {
        EditorCore x = seeking(check, "ab", "|xab");
        int steps = x.info(4);
        int mark = x.info(2);
        check.does(x, 20);
        check.due("steps", x.info(4), steps);
        check.due("mark", x.info(2), mark);
    }
}
