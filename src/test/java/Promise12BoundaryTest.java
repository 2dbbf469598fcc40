/** Promise 12, killed: the boundary cases. Behind each sentence of the document stand its cases. */
public final class Promise12BoundaryTest {
    public static void main(String[] args) throws IllegalAccessException {
        Cases.run(Promise12BoundaryTest.class);
    }

    /** The kills "b/" and "a", the newest first. */
    private static EditorCore withTwoKills(Check check) {
        EditorCore x = check.start("|ab/c");
        check.does(x, 15, 0, 11, 0, 0, 11);
        check.due("kills", Check.kills(x), "b/,a");
        return x;
    }

    // "Character k (from 0) of KILL i (0 the newest), its code"

    static void theFirstAndTheLastCharacter(Check check) {
        EditorCore x = withTwoKills(check);
        check.due("killed(0, 0)", x.killed(0, 0), 98);
        check.due("killed(0, 1)", x.killed(0, 1), 10);
        check.due("killed(1, 0)", x.killed(1, 0), 97);
    }

    static void theHundredthCharacter(Check check) {
        EditorCore x = new EditorCore();
        check.fills(x, 'a', 99);
        check.types(x, "z");
        check.does(x, 18, 12);
        check.due("killed(0, 99)", x.killed(0, 99), 122);
        check.due("killed(0, 100)", x.killed(0, 100), 0);
    }

    // "0 behind its end"

    static void behindItsEnd(Check check) {
        EditorCore x = withTwoKills(check);
        check.due("killed(0, 2)", x.killed(0, 2), 0);
        check.due("killed(1, 1)", x.killed(1, 1), 0);
        for (int k : new int[] {3, 99, 100, 101, 1000, Integer.MAX_VALUE}) {
            check.due("killed(0, " + k + ")", x.killed(0, k), 0);
            check.due("killed(1, " + k + ")", x.killed(1, k), 0);
        }
    }

    static void behindTheEndOfAShortOneInALongOnesStead(Check check) {
        EditorCore x = check.start("abcdef");
        check.does(x, 18, 12);
        check.does(x, 15, 0);
        check.does(x, 12, 12, 12, 12);
        check.due("killed(0, 0)", x.killed(0, 0), 97);
        for (int i = 0; i <= 3; i++) {
            check.due("killed(" + i + ", 1)", x.killed(i, 1), 0);
        }
    }

    // "no such KILL or k below 0: REFUSED"

    static void behindTheOldestIsRefused(Check check) {
        Twins.unchanged(check, () -> withTwoKills(check), "killed(2, 0)", x -> x.killed(2, 0), -1);
        EditorCore x = withTwoKills(check);
        check.due("killed(3, 0)", x.killed(3, 0), -1);
        check.due("killed(2, 1)", x.killed(2, 1), -1);
    }

    static void withoutKillsIsRefused(Check check) {
        EditorCore x = check.start("ab");
        check.due("killed(0, 0)", x.killed(0, 0), -1);
    }

    static void theFifthIsRefused(Check check) {
        Twins.refused(check, "killed(4, 0)", x -> x.killed(4, 0));
        EditorCore x = check.start("ab");
        check.does(x, 18, 12, 12, 12, 12, 12);
        check.due("killed(3, 0)", x.killed(3, 0), 97);
        check.due("killed(4, 0)", x.killed(4, 0), -1);
    }

    static void minusOneIsRefused(Check check) {
        Twins.refused(check, "killed(-1, 0)", x -> x.killed(-1, 0));
    }

    static void theCharacterMinusOneIsRefused(Check check) {
        Twins.refused(check, "killed(0, -1)", x -> x.killed(0, -1));
        EditorCore x = withTwoKills(check);
        check.due("killed(0, -1)", x.killed(0, -1), -1);
        check.due("killed(1, -1)", x.killed(1, -1), -1);
    }

    static void numbersFarOffAreRefused(Check check) {
        EditorCore x = withTwoKills(check);
        for (int number : new int[] {Integer.MIN_VALUE, -100, -2}) {
            check.due("killed(0, " + number + ")", x.killed(0, number), -1);
            check.due("killed(" + number + ", 0)", x.killed(number, 0), -1);
        }
        check.due("killed(MAX, 0)", x.killed(Integer.MAX_VALUE, 0), -1);
        check.due("killed(MAX, MAX)", x.killed(Integer.MAX_VALUE, Integer.MAX_VALUE), -1);
    }
}
