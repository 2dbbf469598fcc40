/** Promise 3, command 10 .. 12: the boundary cases. Behind each sentence of the document stand its cases. */
public final class Promise03KillBoundaryTest {
    public static void main(String[] args) throws IllegalAccessException {
        Cases.run(Promise03KillBoundaryTest.class);
    }

    private static void kills(Check check, String from, int number, String to, String killed) {
        EditorCore x = check.start(from);
        int steps = x.info(4);
        check.does(x, number);
        check.due(from + " by " + number, Check.shown(x), to);
        check.due("kills of " + from, Check.kills(x), killed);
        check.due("steps of " + from, x.info(4), steps + 1);
    }

    /** Mark at '^' and point at '|', both before the text is looked at. */
    private static EditorCore region(Check check, String letters) {
        EditorCore x = check.start(letters.replace("^", ""));
        int point = x.info(1);
        check.goTo(x, letters.replace("|", "").indexOf('^'));
        check.does(x, 15);
        check.goTo(x, point);
        return x;
    }

    // "10 KILLS from POINT to its line's end"

    static void fromALinesBeginning(Check check) {
        kills(check, "ab/|cd/ef", 10, "ab/|/ef", "cd");
    }

    static void theLastCharacterOfALine(Check check) {
        kills(check, "ab/c|d/ef", 10, "ab/c|/ef", "d");
    }

    static void inTheLastLine(Check check) {
        kills(check, "ab/c|d", 10, "ab/c|", "d");
        kills(check, "|ab", 10, "|", "ab");
    }

    // "or if that's POINT the end of line"

    static void atALinesEndTheEndOfLine(Check check) {
        kills(check, "ab|/cd", 10, "ab|cd", "/");
    }

    static void inAnEmptyLineTheEndOfLine(Check check) {
        kills(check, "ab/|/cd", 10, "ab/|cd", "/");
        kills(check, "|/ab", 10, "|ab", "/");
        kills(check, "ab|/", 10, "ab|", "/");
    }

    // "at the end of the text: NOTHING"

    static void atTheEndNothing(Check check) {
        Twins.unchanged(check, () -> region(check, "a^b/cd|"), "command(10)", x -> x.command(10), -2);
    }

    static void atTheEndBehindAnEndOfLineNothing(Check check) {
        Twins.unchanged(check, () -> region(check, "a^b/|"), "command(10)", x -> x.command(10), -2);
    }

    static void inAnEmptyTextNothing(Check check) {
        Twins.unchanged(check, EditorCore::new, "command(10)", x -> x.command(10), -2);
    }

    static void nothingBehindAKillAddsNothing(Check check) {
        Twins.unchanged(check, () -> {
            EditorCore x = check.start("a|b");
            check.does(x, 10);
            return x;
        }, "command(10)", x -> x.command(10), -2);
    }

    // "11 KILLS what is between MARK and POINT"

    static void theMarkBeforePoint(Check check) {
        EditorCore x = region(check, "a^bc|d");
        check.does(x, 11);
        check.due("11", Check.shown(x), "a^|d");
        check.due("kills", Check.kills(x), "bc");
    }

    static void theMarkBehindPoint(Check check) {
        EditorCore x = region(check, "a|bc^d");
        check.does(x, 11);
        check.due("11", Check.shown(x), "a^|d");
        check.due("kills", Check.kills(x), "bc");
    }

    static void oneCharacterAndTheWholeText(Check check) {
        EditorCore one = region(check, "a^b|c");
        check.does(one, 11);
        check.due("one", Check.kills(one), "b");
        EditorCore all = region(check, "|ab/c^");
        check.does(all, 11);
        check.due("all", Check.kills(all), "ab/c");
        check.due("all", Check.shown(all), "^|");
    }

    static void hundredCharacters(Check check) {
        EditorCore x = new EditorCore();
        check.fills(x, 'a', 99);
        check.types(x, "z");
        check.does(x, 18, 11);
        check.due("length", x.info(0), 0);
        check.due("the last of the kill", x.killed(0, 99), 'z');
        check.due("behind it", x.killed(0, 100), 0);
        check.does(x, 13);
        check.due("length", x.info(0), 100);
    }

    // "12 COPIES it"; "COPYING makes them the newest KILL."

    static void copyingLeavesTheText(Check check) {
        EditorCore x = region(check, "a|bc^d");
        int steps = x.info(4);
        check.does(x, 12);
        check.due("12", Check.shown(x), "a|bc^d");
        check.due("kills", Check.kills(x), "bc");
        check.due("no step", x.info(4), steps);
        EditorCore y = region(check, "a^bc|d");
        check.does(y, 12);
        check.due("12", Check.shown(y), "a^bc|d");
        check.due("kills", Check.kills(y), "bc");
    }

    // "without MARK or if both are the same: NOTHING"

    static void withoutMarkNothing(Check check) {
        Twins.unchanged(check, () -> check.start("ab|c"), "command(11)", x -> x.command(11), -2);
        Twins.unchanged(check, () -> check.start("ab|c"), "command(12)", x -> x.command(12), -2);
        Twins.unchanged(check, () -> check.start("|abc"), "command(11)", x -> x.command(11), -2);
        Twins.unchanged(check, () -> check.start("|abc"), "command(12)", x -> x.command(12), -2);
    }

    static void withMarkAtPointNothing(Check check) {
        for (String letters : new String[] {"^|ab", "a^|b", "ab^|"}) {
            Twins.unchanged(check, () -> region(check, letters), "command(11)", x -> x.command(11), -2);
            Twins.unchanged(check, () -> region(check, letters), "command(12)", x -> x.command(12), -2);
        }
    }

    // "KILLING takes the characters out, POINT being where they were, and makes them the newest KILL"

    static void everyElevenAndTwelveMakesANewKill(Check check) {
        EditorCore x = region(check, "a|bc^def");
        check.does(x, 12, 12, 11);
        check.due("12, 12, 11", Check.kills(x), "bc,bc,bc");
        check.does(x, 0, 11);
        check.due("11 again", Check.kills(x), "d,bc,bc,bc");
    }

    static void elevenBehindTenIsANewKill(Check check) {
        EditorCore x = region(check, "^a|bc");
        check.does(x, 10, 11);
        check.due("kills", Check.kills(x), "a,bc");
    }

    static void twelveBehindTenIsANewKill(Check check) {
        EditorCore x = region(check, "^a|bc");
        check.does(x, 10, 12);
        check.due("kills", Check.kills(x), "a,bc");
    }

    static void elevenBehindElevenFindsNothing(Check check) {
        EditorCore x = region(check, "a^b|cd");
        check.does(x, 11);
        check.answers(x, 11, -2);
        check.due("kills", Check.kills(x), "b");
    }

    // "but if the LAST COMMAND was 10 or 11, 10 puts them behind the newest KILL instead"

    static void tenBehindTenAdds(Check check) {
        EditorCore x = check.start("|ab/cd");
        check.does(x, 10, 10, 10);
        check.due("kills", Check.kills(x), "ab/cd");
        check.due("steps", x.info(4), 4);
    }

    static void tenBehindElevenAdds(Check check) {
        EditorCore x = region(check, "^ab|cd/e");
        check.does(x, 11, 10);
        check.due("kills", Check.kills(x), "abcd");
    }

    static void tenAddsToTheNewestAlone(Check check) {
        EditorCore x = region(check, "^a|b/c");
        check.does(x, 12, 10, 10);
        check.due("kills", Check.kills(x), "b/,a");
    }

    static void tenAddsUpToHundred(Check check) {
        EditorCore x = new EditorCore();
        for (int i = 0; i < 10; i++) {
            check.sets(x, 9);
            check.types(x, "a/");
        }
        check.due("length", x.info(0), 100);
        check.does(x, 18);
        for (int i = 0; i < 20; i++) {
            check.does(x, 10);
        }
        check.answers(x, 10, -2);
        check.due("kills", x.info(3), 1);
        check.due("the last", x.killed(0, 99), 10);
        check.due("the one before", x.killed(0, 98), 'a');
        check.due("behind it", x.killed(0, 100), 0);
        check.does(x, 13);
        check.due("length", x.info(0), 100);
    }

    static void tenBehindEveryOtherCommandIsANewKill(Check check) {
        for (int number : new int[] {0, 1, 2, 3, 4, 5, 6, 7, 8, 9, 12, 13, 15, 16, 17, 18, 19, 20}) {
            EditorCore x = region(check, "ab cd/^ef gh/ab |cd/ef gh/cd/ef gh/ab");
            check.does(x, 10, number);
            int kills = x.info(3);
            check.does(x, 10);
            check.due("kills behind " + number, x.info(3), kills + 1);
        }
    }

    static void tenBehindAnInsertIsANewKill(Check check) {
        EditorCore x = check.start("|ab/cd");
        check.does(x, 10);
        check.types(x, "x");
        check.does(x, 10);
        check.due("kills", Check.kills(x), "/,ab");
    }

    static void tenBehindFourteenIsANewKill(Check check) {
        EditorCore x = check.start("|ab/cd");
        check.does(x, 10, 13, 14, 10);
        check.due("kills", Check.kills(x), "/,ab");
    }

    static void tenBehindWhatWasNotDoneAdds(Check check) {
        EditorCore x = check.start("|ab/cd");
        check.does(x, 10);
        check.answers(x, 9, -2);
        check.answers(x, 14, -2);
        check.answers(x, 17, -2);
        check.answers(x, 20, -2);
        check.answers(x, 21, -2);
        check.answers(x, -1, -1);
        check.due("type(9)", x.type(9), -1);
        check.presses(x, 1, -4);
        check.sets(x, 3);
        x.marker(0, true);
        check.does(x, 10);
        check.due("kills", Check.kills(x), "ab/");
    }

    // "Of 4 KILLS the oldest goes when another comes."

    static void fourAreKept(Check check) {
        EditorCore x = check.start("|abcdef");
        check.does(x, 15, 0, 11, 0, 11, 0, 11, 0, 11);
        check.due("four", Check.kills(x), "d,c,b,a");
        check.due("killed(3, 0)", x.killed(3, 0), 'a');
    }

    static void theFifthPushesTheOldestOut(Check check) {
        EditorCore x = check.start("|abcdef");
        check.does(x, 15, 0, 11, 0, 11, 0, 11, 0, 11, 0, 11);
        check.due("five", Check.kills(x), "e,d,c,b");
        check.due("count", x.info(3), 4);
        check.due("killed(4, 0)", x.killed(4, 0), -1);
        check.does(x, 0, 11);
        check.due("six", Check.kills(x), "f,e,d,c");
    }

    static void copyingPushesTheOldestOutToo(Check check) {
        EditorCore x = check.start("|abcdef");
        check.does(x, 15, 0, 11, 0, 11, 0, 11, 0, 11, 0, 12);
        check.due("five", Check.kills(x), "e,d,c,b");
    }

    static void addingPushesNothingOut(Check check) {
        EditorCore x = check.start("|abcdef");
        check.does(x, 15, 0, 11, 0, 11, 0, 11, 0, 11, 10);
        check.due("four", Check.kills(x), "def,c,b,a");
    }

    static void aShortKillInALongOnesStead(Check check) {
        EditorCore x = check.start("|abcdefgh/i");
        check.does(x, 10, 15, 0, 11, 0, 12, 12, 12);
        check.due("the long one is gone", Check.kills(x), "i,i,i,/");
        check.does(x, 12, 12);
        check.due("nothing of it is left", Check.kills(x), "i,i,i,i");
    }
}
