/** Promise 3, command 8 and 9: the boundary cases. Behind each sentence of the document stand its cases. */
public final class Promise03TakingOutBoundaryTest {
    public static void main(String[] args) throws IllegalAccessException {
        Cases.run(Promise03TakingOutBoundaryTest.class);
    }

    private static void takesOut(Check check, String from, int n, int number, String to) {
        EditorCore x = check.start(from);
        int steps = x.info(4);
        check.doesTimes(x, n, number);
        check.due(from + " by " + n + " times " + number, Check.shown(x), to);
        check.due("steps", x.info(4), steps + 1);
        check.due("kills", x.info(3), 0);
    }

    // "8, 9: takes the n characters behind (before) POINT out, or as many as there are"

    static void exactlyAsManyAsThereAreBehind(Check check) {
        takesOut(check, "ab|cde", 3, 8, "ab|");
    }

    static void fewerBehindThanTheArgument(Check check) {
        takesOut(check, "ab|cde", 4, 8, "ab|");
        takesOut(check, "ab|c", 9, 8, "ab|");
    }

    static void oneBehind(Check check) {
        takesOut(check, "ab|cde", 1, 8, "ab|de");
        takesOut(check, "ab|/de", 1, 8, "ab|de");
    }

    static void exactlyAsManyAsThereAreBefore(Check check) {
        takesOut(check, "abc|de", 3, 9, "|de");
    }

    static void fewerBeforeThanTheArgument(Check check) {
        takesOut(check, "abc|de", 4, 9, "|de");
        takesOut(check, "a|de", 9, 9, "|de");
    }

    static void oneBefore(Check check) {
        takesOut(check, "abc|de", 1, 9, "ab|de");
        takesOut(check, "ab/|de", 1, 9, "ab|de");
    }

    static void theWholeText(Check check) {
        takesOut(check, "|abc", 3, 8, "|");
        takesOut(check, "abc|", 3, 9, "|");
    }

    // "none: NOTHING"

    static void noneBehindIsNothing(Check check) {
        Twins.unchanged(check, () -> withKills(check, "ab|"), "command(8)", x -> x.command(8), -2);
    }

    static void noneBeforeIsNothing(Check check) {
        Twins.unchanged(check, () -> withKills(check, "|ab"), "command(9)", x -> x.command(9), -2);
    }

    static void anEmptyTextIsNothing(Check check) {
        Twins.unchanged(check, EditorCore::new, "command(8)", x -> x.command(8), -2);
        Twins.unchanged(check, EditorCore::new, "command(9)", x -> x.command(9), -2);
    }

    /** The text, two kills and n = 3; the last command is 0 or 1. */
    private static EditorCore withKills(Check check, String letters) {
        EditorCore x = check.start(letters);
        int point = x.info(1);
        check.does(x, 18, 12, 12);
        check.goTo(x, 1);
        check.goTo(x, point);
        check.sets(x, 3);
        return x;
    }

    // "POINT is where they were."

    static void pointIsWhereTheyWere(Check check) {
        EditorCore x = check.start("abcd|ef");
        check.doesTimes(x, 2, 9);
        check.due("point", x.info(1), 2);
        check.doesTimes(x, 2, 8);
        check.due("point", x.info(1), 2);
    }

    static void killsStayAsTheyAre(Check check) {
        EditorCore x = check.start("ab/|cd");
        check.does(x, 10, 9, 9);
        check.due("kills", Check.kills(x), "cd");
    }
}
