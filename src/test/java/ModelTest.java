import java.util.Random;

/**
 * All promises at once: runs of 512 calls drawn by a fixed seed, every answer compared with PlainModel's. The runs
 * differ in which calls are frequent, so that some fill the text, others the bindings, the kills or the macro.
 */
public final class ModelTest {
    private static final int RUNS = 3000;
    private static final int CALLS = 512;
    private static final int KINDS = 13;
    private static final int ASKING = 6;
    private static final int ASKED_LAST = 150;

    private final Random random;
    private final int[] weights = new int[KINDS];
    private final int[] favourites = new int[4];
    private EditorCore core;
    private PlainModel model;
    private String call;

    private ModelTest(int seed) {
        random = new Random(seed);
    }

    public static void main(String[] args) {
        int wrong = 0;
        for (int seed = 1; seed <= RUNS && wrong < 10; seed++) {
            wrong += new ModelTest(seed).run(seed) ? 0 : 1;
        }
        System.out.println(wrong == 0 ? "all answers are as due" : wrong + " runs are not as due");
        if (wrong != 0) {
            System.exit(1);
        }
    }

    private boolean run(int seed) {
        core = new EditorCore();
        model = new PlainModel();
        for (int i = 0; i < KINDS; i++) {
            weights[i] = 1 + random.nextInt(random.nextBoolean() ? 4 : 30);
        }
        for (int i = 0; i < favourites.length; i++) {
            favourites[i] = random.nextInt(22);
        }
        StringBuilder calls = new StringBuilder();
        for (int i = 0; i < CALLS; i++) {
            // The last calls of a run mostly ask, so that what the others changed is seen.
            int[] answers = next(i < CALLS - ASKED_LAST ? drawn() : ASKING + random.nextInt(KINDS - ASKING));
            calls.append(call).append(' ');
            if (answers[0] != answers[1]) {
                System.out.println("seed " + seed + ": " + call + " answered " + answers[0] + ", due is " + answers[1]);
                System.out.println("  behind " + calls);
                return false;
            }
        }
        return true;
    }

    private int drawn() {
        int sum = 0;
        for (int weight : weights) {
            sum += weight;
        }
        int left = random.nextInt(sum);
        int kind = 0;
        while (left >= weights[kind]) {
            left -= weights[kind];
            kind++;
        }
        return kind;
    }

    /** Mostly a number within the limits, now and then one beside them. */
    private int number(int from, int to) {
        return random.nextInt(40) == 0 ? from - 3 + random.nextInt(to - from + 7) : from + random.nextInt(to - from + 1);
    }

    private int letter() {
        int pick = random.nextInt(12);
        return pick < 2 ? 10 : pick < 4 ? 32 : pick == 4 ? number(97, 122) : 97 + random.nextInt(3);
    }

    private int commandNumber() {
        return random.nextInt(3) == 0 ? favourites[random.nextInt(favourites.length)] : number(0, 21);
    }

    private int[] next(int kind) {
        switch (kind) {
            case 0:
                return type();
            case 1:
                return command();
            case 2:
                int n = number(1, 9);
                call = "argument(" + n + ")";
                return new int[] {core.argument(n), model.argument(n)};
            case 3:
                return bind();
            case 4:
                int key = number(0, random.nextBoolean() ? 3 : 15);
                call = "press(" + key + ")";
                return new int[] {core.press(key), model.press(key)};
            case 5:
                boolean on = random.nextBoolean();
                call = "macro(" + on + ")";
                return new int[] {core.macro(on), model.macro(on)};
            default:
                return asked(kind);
        }
    }

    private int[] type() {
        int c = letter();
        call = "type(" + c + ")";
        return new int[] {core.type(c), model.type(c)};
    }

    private int[] command() {
        int number = commandNumber();
        call = "command(" + number + ")";
        return new int[] {core.command(number), model.command(number)};
    }

    private int[] bind() {
        int most = random.nextBoolean() ? 3 : 15;
        int first = number(0, most);
        int second = random.nextInt(3) == 0 ? -1 : number(0, most);
        int third = random.nextInt(3) != 0 && random.nextInt(20) != 0 ? -1 : number(0, most);
        int number = random.nextInt(6) == 0 ? -1 : commandNumber();
        call = "bind(" + first + ", " + second + ", " + third + ", " + number + ")";
        return new int[] {core.bind(first, second, third, number), model.bind(first, second, third, number)};
    }

    private int[] asked(int kind) {
        int a = number(0, kind == 8 ? 99 : kind == 12 ? 13 : 3);
        switch (kind) {
            case 6:
                boolean following = random.nextBoolean();
                call = "marker(" + a + ", " + following + ")";
                return new int[] {core.marker(a, following), model.marker(a, following)};
            case 7:
                int columns = number(4, 20);
                int rows = number(2, 6);
                call = "frame(" + columns + ", " + rows + ")";
                return new int[] {core.frame(columns, rows), model.frame(columns, rows)};
            case 8:
                call = "character(" + a + ")";
                return new int[] {core.character(a), model.character(a)};
            case 9:
                call = "markerAt(" + a + ")";
                return new int[] {core.markerAt(a), model.markerAt(a)};
            case 10:
                int k = number(0, random.nextBoolean() ? 5 : 100);
                call = "killed(" + a + ", " + k + ")";
                return new int[] {core.killed(a, k), model.killed(a, k)};
            case 11:
                int column = number(0, random.nextBoolean() ? 5 : 19);
                call = "cell(" + a + ", " + column + ")";
                return new int[] {core.cell(a, column), model.cell(a, column)};
            default:
                call = "info(" + a + ")";
                return new int[] {core.info(a), model.info(a)};
        }
    }
}
