/** Promise 10, character: the boundary cases. Behind each sentence of the document stand its cases. */
public final class Promise10BoundaryTest {
    public static void main(String[] args) throws IllegalAccessException {
        Cases.run(Promise10BoundaryTest.class);
    }

    // "The code of the character behind place i"

    static void theFirstAndTheLast(Check check) {
        EditorCore x = check.start("a z/");
        check.due("character(0)", x.character(0), 97);
        check.due("character(1)", x.character(1), 32);
        check.due("character(2)", x.character(2), 122);
        check.due("character(3)", x.character(3), 10);
    }

    static void theHundredth(Check check) {
        EditorCore x = new EditorCore();
        check.fills(x, 'a', 99);
        check.types(x, "z");
        check.due("character(99)", x.character(99), 122);
        check.due("character(100)", x.character(100), -1);
    }

    // "REFUSED if there is none"

    static void atTheEndIsRefused(Check check) {
        Twins.unchanged(check, () -> check.start("a|b"), "character(2)", x -> x.character(2), -1);
        EditorCore x = check.start("ab");
        check.due("character(1)", x.character(1), 98);
        check.due("character(2)", x.character(2), -1);
    }

    static void minusOneIsRefused(Check check) {
        Twins.refused(check, "character(-1)", x -> x.character(-1));
    }

    static void hundredAndMoreAreRefused(Check check) {
        Twins.refused(check, "character(100)", x -> x.character(100));
        EditorCore x = check.start("ab");
        for (int i : new int[] {Integer.MIN_VALUE, -100, -2, 3, 99, 101, 256, Integer.MAX_VALUE}) {
            check.due("character(" + i + ")", x.character(i), -1);
        }
    }

    static void inAnEmptyTextIsRefused(Check check) {
        EditorCore x = new EditorCore();
        check.due("character(0)", x.character(0), -1);
    }

    static void whatWasTakenOutIsRefused(Check check) {
        EditorCore x = check.start("abc");
        check.does(x, 9);
        check.due("character(2)", x.character(2), -1);
        check.due("character(1)", x.character(1), 98);
    }
}
