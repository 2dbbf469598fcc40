/** What the tests share: comparing answers, and writing a whole state as one short text. */
final class Check {
    private static final int ROOM = 100;
    private static final int MOST_COLUMNS = 20;
    private static final int MOST_ROWS = 6;

    private final String name;
    private int wrong;

    Check() {
        this("");
    }

    /** The name stands before every wrong answer that is told. */
    Check(String name) {
        this.name = name;
    }

    void due(String call, int got, int want) {
        if (got != want) {
            wrong(call + " answered " + got + ", due is " + want);
        }
    }

    void due(String what, String got, String want) {
        if (!got.equals(want)) {
            wrong(what + " gave \"" + got + "\", due is \"" + want + "\"");
        }
    }

    void wrong(String what) {
        wrong++;
        System.out.println(name + what);
    }

    boolean failed() {
        return wrong != 0;
    }

    /** Does the commands one after the other, each of which must be done. */
    void does(EditorCore x, int... numbers) {
        for (int number : numbers) {
            answers(x, number, EditorCore.DONE);
        }
    }

    /** Does one command, whose answer is told. */
    void answers(EditorCore x, int number, int want) {
        due("command(" + number + ")", x.command(number), want);
    }

    /** Sets the argument and does one command, which must be done. */
    void doesTimes(EditorCore x, int n, int number) {
        sets(x, n);
        does(x, number);
    }

    /** Sets the argument. */
    void sets(EditorCore x, int n) {
        due("argument(" + n + ")", x.argument(n), EditorCore.DONE);
    }

    /** Types a text, '/' being an end of line. */
    void types(EditorCore x, String letters) {
        for (char c : letters.toCharArray()) {
            due("type(" + c + ")", x.type(c == '/' ? 10 : c), EditorCore.DONE);
        }
    }

    /** Types one character until the text has the length, as many at once as the argument allows. */
    void fills(EditorCore x, char c, int length) {
        for (int i = 0; i < ROOM && x.info(0) < length; i++) {
            sets(x, Math.min(9, length - x.info(0)));
            types(x, String.valueOf(c));
        }
    }

    void binds(EditorCore x, int first, int second, int third, int number, int want) {
        due("bind(" + first + ", " + second + ", " + third + ", " + number + ")",
            x.bind(first, second, third, number), want);
    }

    /** Binds a single key. */
    void binds(EditorCore x, int key, int number) {
        binds(x, key, -1, -1, number, EditorCore.DONE);
    }

    void presses(EditorCore x, int key, int want) {
        due("press(" + key + ")", x.press(key), want);
    }

    /** Records keys (written as digits) and typed characters, each of which must be done. */
    void records(EditorCore x, String events) {
        due("macro(true)", x.macro(true), EditorCore.DONE);
        for (char c : events.toCharArray()) {
            if (c >= '0' && c <= '9') {
                due("press(" + c + ") is done", Math.min(x.press(c - '0'), 0), 0);
            } else {
                types(x, String.valueOf(c));
            }
        }
        due("macro(false)", x.macro(false), events.length());
    }

    /** A new object with the text typed; '|' is where point goes, '/' an end of line. */
    EditorCore start(String letters) {
        EditorCore x = new EditorCore();
        int point = letters.indexOf('|');
        types(x, letters.replace("|", ""));
        goTo(x, point < 0 ? letters.length() : point);
        return x;
    }

    /** Moves point; the last command is then 0 or 1, or the one before if point is there already. */
    void goTo(EditorCore x, int place) {
        for (int i = 0; i < ROOM && x.info(1) != place; i++) {
            int away = place - x.info(1);
            doesTimes(x, Math.min(9, Math.abs(away)), away > 0 ? 0 : 1);
        }
    }

    /** The text with '|' at point, '^' at the mark (before point, if both are there), '/' for an end of line. */
    static String shown(EditorCore x) {
        StringBuilder all = new StringBuilder();
        int length = x.info(0);
        int point = x.info(1);
        int mark = x.info(2);
        for (int place = 0; place <= length; place++) {
            if (mark == place) {
                all.append('^');
            }
            if (point == place) {
                all.append('|');
            }
            if (place < length) {
                all.append(readable(x.character(place)));
            }
        }
        return all.toString();
    }

    /** The kills, newest first, with ',' between them. */
    static String kills(EditorCore x) {
        StringBuilder all = new StringBuilder();
        int count = x.info(3);
        for (int i = 0; i < count; i++) {
            if (i > 0) {
                all.append(',');
            }
            int code = x.killed(i, 0);
            for (int k = 1; k <= ROOM && code > 0; k++) {
                all.append(readable(code));
                code = x.killed(i, k);
            }
        }
        return all.toString();
    }

    /** The markers' places with a blank between them. */
    static String markers(EditorCore x) {
        return x.markerAt(0) + " " + x.markerAt(1) + " " + x.markerAt(2) + " " + x.markerAt(3);
    }

    /** The cells of the frame's rows, '.' for an empty one, '/' between rows. */
    static String cells(EditorCore x, int columns, int rows) {
        StringBuilder all = new StringBuilder();
        for (int row = 0; row < rows; row++) {
            if (row > 0) {
                all.append('/');
            }
            for (int column = 0; column < columns; column++) {
                int code = x.cell(row, column);
                all.append(code == 0 ? '.' : (char) code);
            }
        }
        return all.toString();
    }

    /** All that can be asked. */
    static String state(EditorCore x) {
        StringBuilder all = new StringBuilder(shown(x));
        all.append(" markers ").append(markers(x)).append(" kills ").append(kills(x)).append(" info");
        for (int what = 3; what <= 13; what++) {
            all.append(' ').append(x.info(what));
        }
        return all.append(" frame ").append(frameSize(x)).toString();
    }

    private static String frameSize(EditorCore x) {
        int columns = 0;
        while (columns <= MOST_COLUMNS && x.cell(0, columns) >= 0) {
            columns++;
        }
        int rows = 0;
        while (rows <= MOST_ROWS && x.cell(rows, 0) >= 0) {
            rows++;
        }
        return columns + " " + rows;
    }

    private static char readable(int code) {
        return code == 10 ? '/' : (char) code;
    }

    void end() {
        System.out.println(wrong == 0 ? "all answers are as due" : wrong + " answers are not as due");
        if (wrong != 0) {
            System.exit(1);
        }
    }
}
