/** Promise 5: bind. */
public final class BindTest {
    public static void main(String[] args) {
        Check check = new Check();
        wrongNumbers(check);
        bindsAndTakesAway(check);
        shorterOnesAreInTheWay(check);
        longerOnesGo(check);
        twentyFour(check);
        numbersFirst(check);
        check.end();
    }

    private static void wrongNumbers(Check check) {
        EditorCore x = new EditorCore();
        int[] wrong = {Integer.MIN_VALUE, -2, 16, 17, 100, Integer.MAX_VALUE};
        for (int key : wrong) {
            check.binds(x, key, -1, -1, 0, -1);
            check.binds(x, 0, key, -1, 0, -1);
            check.binds(x, 0, key, 0, 0, -1);
            check.binds(x, 0, 0, key, 0, -1);
            check.binds(x, 0, 0, key, -1, -1);
        }
        check.binds(x, -1, -1, -1, 0, -1);
        check.binds(x, -1, 0, 0, 0, -1);
        check.binds(x, 0, -1, 0, 0, -1);
        check.binds(x, 0, -1, 15, -1, -1);
        for (int number : new int[] {Integer.MIN_VALUE, -2, 22, 100, 1000, Integer.MAX_VALUE}) {
            check.binds(x, 0, -1, -1, number, -1);
            check.binds(x, 0, 0, 0, number, -1);
        }
        check.due("bindings", x.info(8), 0);
    }

    private static void bindsAndTakesAway(Check check) {
        EditorCore x = check.start("ab|cd");
        check.binds(x, 0, -1, -1, 0, 0);
        check.binds(x, 15, 15, -1, 1, 0);
        check.binds(x, 15, 0, 15, 5, 0);
        check.due("bindings", x.info(8), 3);
        check.due("press(0)", x.press(0), 0);
        check.due("0", Check.shown(x), "abc|d");
        check.binds(x, 0, -1, -1, 1, 0);
        check.due("bound anew, not once more", x.info(8), 3);
        check.due("press(0)", x.press(0), 0);
        check.due("1", Check.shown(x), "ab|cd");
        check.binds(x, 0, -1, -1, -1, 0);
        check.due("bindings", x.info(8), 2);
        check.due("press(0)", x.press(0), -4);
        check.binds(x, 0, -1, -1, -1, 0);
        check.binds(x, 15, 1, -1, -1, 0);
        check.binds(x, 15, 0, 14, -1, 0);
        check.due("what is not bound can be taken away", x.info(8), 2);
        check.due("press(15)", x.press(15), 1000);
        check.due("press(0)", x.press(0), 1000);
        check.due("press(15)", x.press(15), 0);
        check.due("5", Check.shown(x), "abcd|");
        check.due("press(15)", x.press(15), 1000);
        check.due("press(15)", x.press(15), 0);
        check.due("1", Check.shown(x), "abc|d");
        check.binds(x, 15, 0, 15, -1, 0);
        check.due("bindings", x.info(8), 1);
        check.due("bind is no command", x.info(13), 1);
    }

    private static void shorterOnesAreInTheWay(Check check) {
        EditorCore x = new EditorCore();
        check.binds(x, 3, -1, -1, 4, 0);
        check.binds(x, 3, 0, -1, 5, -3);
        check.binds(x, 3, 15, -1, -1, -3);
        check.binds(x, 3, 0, 0, 5, -3);
        check.binds(x, 3, 15, 15, -1, -3);
        check.binds(x, 2, 15, 15, 5, 0);
        check.binds(x, 4, 0, 0, 5, 0);
        check.binds(x, 5, 6, -1, 5, 0);
        check.binds(x, 5, 6, 0, 5, -3);
        check.binds(x, 5, 6, 15, -1, -3);
        check.binds(x, 5, 5, 15, 5, 0);
        check.binds(x, 5, 7, 0, 5, 0);
        check.due("bindings", x.info(8), 6);
        check.due("press(3)", x.press(3), 0);
        check.due("last command", x.info(13), 4);
    }

    private static void longerOnesGo(Check check) {
        EditorCore x = new EditorCore();
        check.binds(x, 3, 0, -1, 4, 0);
        check.binds(x, 3, 15, 0, 4, 0);
        check.binds(x, 3, 15, 15, 4, 0);
        check.binds(x, 2, 15, 15, 4, 0);
        check.binds(x, 4, 0, 0, 4, 0);
        check.binds(x, 3, -1, -1, -1, 0);
        check.binds(x, 3, 15, -1, -1, 0);
        check.due("for -1 nothing happens", x.info(8), 5);
        check.binds(x, 3, 15, -1, 5, 0);
        check.due("two go for one", x.info(8), 4);
        check.binds(x, 3, -1, -1, 5, 0);
        check.due("two more go for one", x.info(8), 3);
        check.due("press(3)", x.press(3), 0);
        check.due("last command", x.info(13), 5);
        check.due("press(2)", x.press(2), 1000);
        check.due("press(15)", x.press(15), 1000);
        check.due("press(15)", x.press(15), 0);
        check.due("press(4)", x.press(4), 1000);
        check.due("press(0)", x.press(0), 1000);
        check.due("press(0)", x.press(0), 0);
    }

    private static EditorCore withTwentyFour(Check check) {
        EditorCore x = new EditorCore();
        for (int key = 0; key < 16; key++) {
            check.binds(x, 0, 0, key, 5, 0);
        }
        for (int key = 1; key < 9; key++) {
            check.binds(x, 0, key, -1, 5, 0);
        }
        check.due("bindings", x.info(8), 24);
        return x;
    }

    private static void twentyFour(Check check) {
        EditorCore x = withTwentyFour(check);
        check.binds(x, 1, -1, -1, 5, -3);
        check.binds(x, 0, 9, -1, 5, -3);
        check.binds(x, 0, 9, -1, -1, 0);
        check.due("bindings", x.info(8), 24);
        check.binds(x, 0, 8, -1, 4, 0);
        check.due("one that is bound is bound anew", x.info(8), 24);
        check.binds(x, 0, 0, -1, 4, 0);
        check.due("16 go for one", x.info(8), 9);
        EditorCore all = withTwentyFour(check);
        check.binds(all, 0, -1, -1, 4, 0);
        check.due("24 go for one", all.info(8), 1);
        EditorCore one = withTwentyFour(check);
        check.binds(one, 0, 8, -1, -1, 0);
        check.binds(one, 15, 15, 15, 5, 0);
        check.binds(one, 15, 15, 14, 5, -3);
        check.due("bindings", one.info(8), 24);
    }

    private static void numbersFirst(Check check) {
        EditorCore x = withTwentyFour(check);
        check.binds(x, 1, -1, -1, 22, -1);
        check.binds(x, 0, 8, 1, 22, -1);
        check.binds(x, 0, 8, 1, 21, -3);
        check.binds(x, 0, 8, 16, 21, -1);
    }
}
