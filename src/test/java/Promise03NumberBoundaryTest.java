/** Promise 3, command: its number, n and the LAST COMMAND. Behind each sentence of the document stand its cases. */
public final class Promise03NumberBoundaryTest {
    public static void main(String[] args) throws IllegalAccessException {
        Cases.run(Promise03NumberBoundaryTest.class);
    }

    // "Does the command (0 .. 21, else REFUSED)."

    static void belowZeroIsRefused(Check check) {
        Twins.refused(check, "command(-1)", x -> x.command(-1));
    }

    static void aboveTwentyOneIsRefused(Check check) {
        Twins.refused(check, "command(22)", x -> x.command(22));
    }

    static void numbersFarOffAreRefused(Check check) {
        EditorCore x = check.start("a|b");
        for (int number : new int[] {Integer.MIN_VALUE, -100, -2, 23, 32, 100, 256, 1000, 65536, Integer.MAX_VALUE}) {
            check.answers(x, number, -1);
        }
        check.due("the text", Check.shown(x), "a|b");
        check.due("last command", x.info(13), 1);
    }

    static void zeroAndTwentyOneAreCommands(Check check) {
        EditorCore x = new EditorCore();
        check.answers(x, 0, 0);
        check.answers(x, 21, -2);
        check.records(x, "ab");
        check.answers(x, 21, 2);
    }

    /** A text in which every command but 14 and 21 can be done, point in the middle of it. */
    private static EditorCore ready(Check check) {
        EditorCore x = check.start("a bc|/d ef/g");
        check.does(x, 15, 0, 12, 4, 13);
        check.goTo(x, 1);
        return x;
    }

    // "The LAST COMMAND is the latest one that was done (an answer not below 0)", "a done command sets back to 1"

    static void everyDoneCommandIsTheLastAndSetsTheArgumentBack(Check check) {
        for (int number = 0; number <= 20; number++) {
            EditorCore x = ready(check);
            if (number == 14) {
                check.does(x, 13);
            }
            check.doesTimes(x, 9, number);
            check.due("last command behind " + number, x.info(13), number);
            check.due("n behind " + number, x.info(12), 1);
        }
    }

    static void movingNowhereIsDoneToo(Check check) {
        for (int number : new int[] {0, 1, 2, 3, 4, 5, 6, 7, 15, 18}) {
            EditorCore x = new EditorCore();
            check.doesTimes(x, 2, number);
            check.due("last command", x.info(13), number);
            check.due("n", x.info(12), 1);
        }
    }

    static void nothingToDoLeavesTheLastAndTheArgument(Check check) {
        for (int number : new int[] {8, 9, 10, 11, 12, 13, 14, 16, 17, 19, 20, 21}) {
            EditorCore x = new EditorCore();
            check.does(x, 4);
            check.sets(x, 6);
            check.answers(x, number, -2);
            check.due("last command behind " + number, x.info(13), 4);
            check.due("n behind " + number, x.info(12), 6);
        }
    }

    // "n matters for 0 .. 3, 6 .. 9 and 21 alone."

    static void theOthersKnowNoArgument(Check check) {
        for (int number : new int[] {4, 5, 10, 11, 12, 13, 14, 15, 16, 17, 18, 19, 20}) {
            Twins.alike(check, number + " with n = 9", () -> {
                EditorCore x = ready(check);
                x.command(13);
                check.sets(x, 1);
                x.command(number);
                return x;
            }, () -> {
                EditorCore x = ready(check);
                x.command(13);
                check.sets(x, 9);
                x.command(number);
                return x;
            });
        }
    }

    static void theArgumentMattersForTheRest(Check check) {
        String[] due = {"ab/cd/e|f/gh/ij kl mn op", "a|b/cd/ef/gh/ij kl mn op", "ab/cd/ef/gh/i|j kl mn op",
            "a|b/cd/ef/gh/ij kl mn op", "ab/cd/ef/gh|/ij kl mn op", "|ab/cd/ef/gh/ij kl mn op",
            "ab/c|f/gh/ij kl mn op", "a|d/ef/gh/ij kl mn op"};
        int[] numbers = {0, 1, 2, 3, 6, 7, 8, 9};
        for (int i = 0; i < numbers.length; i++) {
            EditorCore x = check.start("ab/c|d/ef/gh/ij kl mn op");
            check.doesTimes(x, 3, numbers[i]);
            check.due(numbers[i] + " with n = 3", Check.shown(x), due[i]);
        }
    }

    static void everyCommandLeavesPendingKeys(Check check) {
        for (int number = 0; number <= 20; number++) {
            EditorCore x = ready(check);
            check.binds(x, 7, 8, -1, 5, 0);
            check.presses(x, 7, 1000);
            x.command(number);
            check.due("pending behind " + number, x.info(5), 1);
        }
    }
}
