/** Promise 6: press. */
public final class PressTest {
    public static void main(String[] args) {
        Check check = new Check();
        wrongKeys(check);
        oneTwoAndThreeKeys(check);
        pendingEnds(check);
        answersOfCommands(check);
        bindingsChangeWhilePending(check);
        everyKey(check);
        check.end();
    }

    private static void wrongKeys(Check check) {
        EditorCore x = new EditorCore();
        check.due("bind", x.bind(1, 2, -1, 5), 0);
        check.presses(x, 1, 1000);
        for (int key : new int[] {Integer.MIN_VALUE, -2, -1, 16, 17, 1000, Integer.MAX_VALUE}) {
            check.presses(x, key, -1);
        }
        check.due("the key stays pending", x.info(5), 1);
        check.presses(x, 2, 0);
        check.due("last command", x.info(13), 5);
    }

    private static void oneTwoAndThreeKeys(Check check) {
        EditorCore x = new EditorCore();
        check.due("bind", x.bind(1, -1, -1, 4), 0);
        check.due("bind", x.bind(2, 1, -1, 5), 0);
        check.due("bind", x.bind(2, 2, 2, 6), 0);
        check.presses(x, 1, 0);
        check.due("last command", x.info(13), 4);
        check.due("pending", x.info(5), 0);
        check.presses(x, 2, 1000);
        check.due("pending", x.info(5), 1);
        check.presses(x, 1, 0);
        check.due("last command", x.info(13), 5);
        check.due("pending", x.info(5), 0);
        check.presses(x, 2, 1000);
        check.presses(x, 2, 1000);
        check.due("pending", x.info(5), 2);
        check.due("a prefix is no command", x.info(13), 5);
        check.presses(x, 2, 0);
        check.due("last command", x.info(13), 6);
        check.due("pending", x.info(5), 0);
    }

    private static void pendingEnds(Check check) {
        EditorCore x = new EditorCore();
        check.due("bind", x.bind(2, 2, 2, 6), 0);
        check.due("bind", x.bind(1, -1, -1, 4), 0);
        check.presses(x, 0, -4);
        check.presses(x, 2, 1000);
        check.presses(x, 1, -4);
        check.due("pending", x.info(5), 0);
        check.due("what is unbound calls nothing", x.info(13), -2);
        check.presses(x, 2, 1000);
        check.presses(x, 2, 1000);
        check.presses(x, 3, -4);
        check.due("pending", x.info(5), 0);
        check.presses(x, 2, 1000);
        check.types(x, "a");
        check.does(x, 4);
        check.due("other calls leave it pending", x.info(5), 1);
        check.presses(x, 2, 1000);
        check.presses(x, 2, 0);
        check.due("last command", x.info(13), 6);
    }

    private static void answersOfCommands(Check check) {
        EditorCore x = new EditorCore();
        check.due("bind", x.bind(1, 2, -1, 13), 0);
        check.presses(x, 1, 1000);
        check.presses(x, 2, -2);
        check.due("pending ends when nothing is done too", x.info(5), 0);
        for (int i = 0; i < 6; i++) {
            check.due("argument(9)", x.argument(9), 0);
            check.types(x, "a");
        }
        check.does(x, 18, 12);
        check.presses(x, 1, 1000);
        check.presses(x, 2, -3);
        check.due("pending ends when it is full too", x.info(5), 0);
        check.due("length", x.info(0), 54);
        check.due("bind", x.bind(3, -1, -1, 1), 0);
        check.does(x, 16);
        check.due("argument(7)", x.argument(7), 0);
        check.presses(x, 3, 0);
        check.due("n holds for keys too", x.info(1), 47);
    }

    private static void bindingsChangeWhilePending(Check check) {
        EditorCore x = new EditorCore();
        check.due("bind", x.bind(1, 2, 3, 4), 0);
        check.presses(x, 1, 1000);
        check.presses(x, 2, 1000);
        check.due("bind a shorter one", x.bind(1, -1, -1, 5), 0);
        check.due("pending stays", x.info(5), 2);
        check.presses(x, 3, -4);
        check.due("pending", x.info(5), 0);
        check.presses(x, 1, 0);
        check.due("last command", x.info(13), 5);
        check.due("take it away", x.bind(1, -1, -1, -1), 0);
        check.due("bind", x.bind(1, 2, 3, 4), 0);
        check.presses(x, 1, 1000);
        check.due("take it away", x.bind(1, 2, 3, -1), 0);
        check.due("bind", x.bind(1, 4, -1, 6), 0);
        check.presses(x, 4, 0);
        check.due("last command", x.info(13), 6);
    }

    private static void everyKey(Check check) {
        EditorCore x = new EditorCore();
        for (int key = 0; key <= 15; key++) {
            check.due("bind", x.bind(key, 15 - key, key, key % 8), 0);
        }
        for (int key = 0; key <= 15; key++) {
            check.presses(x, key, 1000);
            check.presses(x, 15 - key, 1000);
            check.presses(x, key, 0);
            check.due("last command", x.info(13), key % 8);
        }
    }
}
