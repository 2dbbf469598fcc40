/** What the tests share: comparing answers, and writing a whole state as one short text. */
final class Check {
    private static final int ROOM = 100;

    private int wrong;

    void due(String call, int got, int want) {
        if (got != want) {
            wrong++;
            System.out.println(call + " answered " + got + ", due is " + want);
        }
    }

    void due(String what, String got, String want) {
        if (!got.equals(want)) {
            wrong++;
            System.out.println(what + " gave \"" + got + "\", due is \"" + want + "\"");
        }
    }

    /** Does the commands one after the other, each of which must be done. */
    void does(EditorCore x, int... numbers) {
        for (int number : numbers) {
            due("command(" + number + ")", x.command(number), EditorCore.DONE);
        }
    }

    /** Sets the argument and does one command, which must be done. */
    void doesTimes(EditorCore x, int n, int number) {
        due("argument(" + n + ")", x.argument(n), EditorCore.DONE);
        does(x, number);
    }

    /** Types a text, '/' being an end of line. */
    void types(EditorCore x, String letters) {
        for (char c : letters.toCharArray()) {
            due("type(" + c + ")", x.type(c == '/' ? 10 : c), EditorCore.DONE);
        }
    }

    /** A new object with the text typed; '|' is where point goes, '/' an end of line. */
    EditorCore start(String letters) {
        EditorCore x = new EditorCore();
        int point = letters.indexOf('|');
        types(x, letters.replace("|", ""));
        goTo(x, point < 0 ? letters.length() : point);
        return x;
    }

    /** Moves point; the last command is then 0 or 1, or the one before if point is there already. */
    void goTo(EditorCore x, int place) {
        while (x.info(1) != place) {
            int away = place - x.info(1);
            doesTimes(x, Math.min(9, Math.abs(away)), away > 0 ? 0 : 1);
        }
    }

    /** The text with '|' at point, '^' at the mark (before point, if both are there), '/' for an end of line. */
    static String shown(EditorCore x) {
        StringBuilder all = new StringBuilder();
        int length = x.info(0);
        for (int place = 0; place <= length; place++) {
            if (x.info(2) == place) {
                all.append('^');
            }
            if (x.info(1) == place) {
                all.append('|');
            }
            if (place < length) {
                all.append(readable(x.character(place)));
            }
        }
        return all.toString();
    }

    /** The kills, newest first, with ',' between them. */
    static String kills(EditorCore x) {
        StringBuilder all = new StringBuilder();
        for (int i = 0; i < x.info(3); i++) {
            if (i > 0) {
                all.append(',');
            }
            for (int k = 0; k < ROOM && x.killed(i, k) != 0; k++) {
                all.append(readable(x.killed(i, k)));
            }
        }
        return all.toString();
    }

    /** The markers' places with a blank between them. */
    static String markers(EditorCore x) {
        return x.markerAt(0) + " " + x.markerAt(1) + " " + x.markerAt(2) + " " + x.markerAt(3);
    }

    /** The cells of the frame's rows, '.' for an empty one, '/' between rows. */
    static String cells(EditorCore x, int columns, int rows) {
        StringBuilder all = new StringBuilder();
        for (int row = 0; row < rows; row++) {
            if (row > 0) {
                all.append('/');
            }
            for (int column = 0; column < columns; column++) {
                int code = x.cell(row, column);
                all.append(code == 0 ? '.' : (char) code);
            }
        }
        return all.toString();
    }

    private static char readable(int code) {
        return code == 10 ? '/' : (char) code;
    }

    void end() {
        System.out.println(wrong == 0 ? "all answers are as due" : wrong + " answers are not as due");
        if (wrong != 0) {
            System.exit(1);
        }
    }
}
