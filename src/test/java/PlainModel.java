import java.util.ArrayList;
import java.util.HashMap;
import java.util.List;
import java.util.Map;

/**
 * The document once more, in the plainest form that the Java library allows: texts are Strings, steps and bindings
 * are kept without a limit, rows are cut as Strings. ModelTest compares EditorCore with it.
 */
final class PlainModel {
    private static final int INSERT = 100;

    private record Step(int place, String out, String in) {
    }

    private record Event(boolean typed, int code) {
    }

    private String text = "";
    private int point;
    private Integer mark;
    private final Integer[] markers = new Integer[4];
    private final boolean[] following = new boolean[4];
    private int n = 1;
    private Integer last;
    private int goal;
    private final List<String> kills = new ArrayList<>();
    private int yanked;
    private int yankedAt;
    private final List<Step> steps = new ArrayList<>();
    private int undone;
    private final Map<List<Integer>, Integer> bindings = new HashMap<>();
    private List<Integer> pending = new ArrayList<>();
    private final List<Event> events = new ArrayList<>();
    private boolean recorded;
    private boolean underWay;
    private int columns = 10;
    private int rows = 4;
    private int first;

    int type(int c) {
        if ("abcdefghijklmnopqrstuvwxyz \n".indexOf(c) < 0) {
            return -1;
        }
        if (text.length() + n > 100) {
            return -3;
        }
        String put = String.valueOf((char) c).repeat(n);
        if (lastWas(INSERT) && latest().in.length() <= 7) {
            Step joined = steps.remove(steps.size() - 1);
            replace(point, 0, put);
            steps.add(new Step(joined.place, joined.out, joined.in + put));
        } else {
            edit(point, 0, put);
        }
        point += put.length();
        finish(INSERT);
        happened(new Event(true, c), 0);
        return 0;
    }

    int command(int number) {
        if (number < 0 || number > 21) {
            return -1;
        }
        if (number == 21) {
            return replay();
        }
        int answer = number < 8 ? move(number) : number < 15 ? killing(number) : others(number);
        if (answer >= 0) {
            finish(number);
        }
        return answer;
    }

    int argument(int count) {
        if (count < 1 || count > 9) {
            return -1;
        }
        n = count;
        return 0;
    }

    int bind(int a, int b, int c, int number) {
        if (a < 0 || a > 15 || b < -1 || b > 15 || c < -1 || c > 15 || b == -1 && c != -1 || number < -1 || number > 21) {
            return -1;
        }
        List<Integer> keys = new ArrayList<>(List.of(a));
        if (b >= 0) {
            keys.add(b);
        }
        if (c >= 0) {
            keys.add(c);
        }
        for (int length = 1; length < keys.size(); length++) {
            if (bindings.containsKey(keys.subList(0, length))) {
                return -3;
            }
        }
        if (number == -1) {
            bindings.remove(keys);
            return 0;
        }
        Map<List<Integer>, Integer> others = new HashMap<>(bindings);
        others.keySet().removeIf(bound -> beginsWith(bound, keys));
        if (others.size() >= 24) {
            return -3;
        }
        bindings.keySet().retainAll(others.keySet());
        bindings.put(keys, number);
        return 0;
    }

    int press(int key) {
        if (key < 0 || key > 15) {
            return -1;
        }
        List<Integer> keys = new ArrayList<>(pending);
        keys.add(key);
        pending = new ArrayList<>();
        int answer = -4;
        if (bindings.containsKey(keys)) {
            answer = command(bindings.get(keys));
        } else if (bindings.keySet().stream().anyMatch(bound -> beginsWith(bound, keys))) {
            pending = keys;
            answer = 1000;
        }
        happened(new Event(false, key), answer);
        return answer;
    }

    int macro(boolean on) {
        if (on == recorded) {
            return -1;
        }
        recorded = on;
        if (on) {
            events.clear();
        }
        return on ? 0 : events.size();
    }

    int marker(int i, boolean follows) {
        if (i < 0 || i > 3) {
            return -1;
        }
        markers[i] = point;
        following[i] = follows;
        return 0;
    }

    int frame(int newColumns, int newRows) {
        if (newColumns < 4 || newColumns > 20 || newRows < 2 || newRows > 6) {
            return -1;
        }
        columns = newColumns;
        rows = newRows;
        first = 0;
        return 0;
    }

    int character(int i) {
        return i >= 0 && i < text.length() ? text.charAt(i) : -1;
    }

    int markerAt(int i) {
        return i < 0 || i > 3 ? -1 : markers[i] == null ? -2 : markers[i];
    }

    int killed(int i, int k) {
        if (i < 0 || i >= kills.size() || k < 0) {
            return -1;
        }
        return k < kills.get(i).length() ? kills.get(i).charAt(k) : 0;
    }

    int cell(int row, int column) {
        if (row < 0 || row >= rows || column < 0 || column >= columns) {
            return -1;
        }
        scroll();
        List<String> all = allRows();
        if (first + row >= all.size() || column >= all.get(first + row).length()) {
            return 0;
        }
        return all.get(first + row).charAt(column);
    }

    int info(int what) {
        int[] steady = {text.length(), point, mark == null ? -2 : mark, kills.size(), steps.size(), pending.size(),
            events.size(), recorded ? 1 : 0, bindings.size(), allRows().size(), -5, pointRow(), n, last == null ? -2 : last};
        if (what == 10) {
            scroll();
            return first;
        }
        return what < 0 || what >= steady.length ? -1 : steady[what];
    }

    private void finish(int number) {
        last = number;
        n = 1;
    }

    private boolean lastWas(int number) {
        return last != null && last == number;
    }

    private Step latest() {
        return steps.get(steps.size() - 1);
    }

    private static boolean beginsWith(List<Integer> all, List<Integer> beginning) {
        return all.size() >= beginning.size() && all.subList(0, beginning.size()).equals(beginning);
    }

    private void happened(Event event, int answer) {
        if (recorded && answer >= 0 && events.size() < 12) {
            events.add(event);
        }
    }

    private int replay() {
        if (recorded || events.isEmpty() || underWay) {
            return -2;
        }
        int rounds = n;
        n = 1;
        underWay = true;
        int done = 0;
        boolean going = true;
        for (int i = 0; i < rounds * events.size() && going; i++) {
            Event event = events.get(i % events.size());
            going = (event.typed ? type(event.code) : press(event.code)) >= 0;
            done += going ? 1 : 0;
        }
        underWay = false;
        if (done == 0) {
            finish(21);
        }
        return done;
    }

    private void edit(int place, int gone, String put) {
        steps.add(new Step(place, text.substring(place, place + gone), put));
        replace(place, gone, put);
    }

    private void replace(int place, int gone, String put) {
        text = text.substring(0, place) + put + text.substring(place + gone);
        mark = moved(mark, false, place, gone, put);
        for (int i = 0; i < 4; i++) {
            markers[i] = moved(markers[i], following[i], place, gone, put);
        }
    }

    private static Integer moved(Integer m, boolean follows, int p, int d, String s) {
        if (m == null || m < p || m == p && d > 0) {
            return m;
        }
        if (m == p) {
            return follows ? p + s.length() : p;
        }
        return m < p + d ? p : m + s.length() - d;
    }

    private String lineBefore() {
        return text.substring(text.lastIndexOf('\n', point - 1) + 1, point);
    }

    private int lineEnd() {
        int end = text.indexOf('\n', point);
        return end < 0 ? text.length() : end;
    }

    private int move(int number) {
        switch (number) {
            case 0 -> point = Math.min(text.length(), point + n);
            case 1 -> point = Math.max(0, point - n);
            case 2 -> lineTo(n);
            case 3 -> lineTo(-n);
            case 4 -> point -= lineBefore().length();
            case 5 -> point = lineEnd();
            case 6 -> {
                for (int i = 0; i < n; i++) {
                    String rest = text.substring(point);
                    point += rest.length() - rest.replaceFirst("^[^a-z]*[a-z]*", "").length();
                }
            }
            default -> {
                for (int i = 0; i < n; i++) {
                    point = text.substring(0, point).replaceFirst("[a-z]*[^a-z]*$", "").length();
                }
            }
        }
        return 0;
    }

    private void lineTo(int away) {
        if (!lastWas(2) && !lastWas(3)) {
            goal = lineBefore().length();
        }
        String[] lines = text.split("\n", -1);
        int number = text.substring(0, point).split("\n", -1).length - 1;
        number = Math.max(0, Math.min(lines.length - 1, number + away));
        point = Math.min(goal, lines[number].length());
        for (int i = 0; i < number; i++) {
            point += lines[i].length() + 1;
        }
    }

    private int killing(int number) {
        int end = Math.min(text.length(), point + n);
        int beginning = Math.max(0, point - n);
        int lineKill = lineEnd() > point ? lineEnd() : Math.min(text.length(), point + 1);
        int from = mark == null ? point : Math.min(mark, point);
        int to = mark == null ? point : Math.max(mark, point);
        return switch (number) {
            case 8 -> takeOut(point, end);
            case 9 -> takeOut(beginning, point);
            case 10 -> kill(point, lineKill, lastWas(10) || lastWas(11));
            case 11 -> kill(from, to, false);
            case 12 -> copy(from, to);
            case 13 -> yank(0, point, 0);
            default -> lastWas(13) || lastWas(14)
                ? yank((yanked + 1) % kills.size(), yankedAt, kills.get(yanked).length()) : -2;
        };
    }

    private int takeOut(int from, int to) {
        if (from == to) {
            return -2;
        }
        edit(from, to - from, "");
        point = from;
        return 0;
    }

    private int copy(int from, int to) {
        if (from == to) {
            return -2;
        }
        kills.add(0, text.substring(from, to));
        if (kills.size() > 4) {
            kills.remove(4);
        }
        return 0;
    }

    private int kill(int from, int to, boolean joined) {
        if (from != to && joined) {
            kills.set(0, kills.get(0) + text.substring(from, to));
        } else if (from != to) {
            copy(from, to);
        }
        return takeOut(from, to);
    }

    private int yank(int number, int place, int gone) {
        if (kills.isEmpty()) {
            return -2;
        }
        String put = kills.get(number);
        if (text.length() - gone + put.length() > 100) {
            return -3;
        }
        edit(place, gone, put);
        point = place + put.length();
        mark = place;
        yanked = number;
        yankedAt = place;
        return 0;
    }

    private int others(int number) {
        switch (number) {
            case 15:
                mark = point;
                return 0;
            case 16:
                if (mark == null) {
                    return -2;
                }
                int old = mark;
                mark = point;
                point = old;
                return 0;
            case 17:
                if (point == 0 || point == text.length()) {
                    return -2;
                }
                edit(point - 1, 2, "" + text.charAt(point) + text.charAt(point - 1));
                point++;
                return 0;
            case 18:
                point = 0;
                mark = text.length();
                return 0;
            case 19:
                return undo();
            default:
                int found = kills.isEmpty() ? -1 : text.indexOf(kills.get(0), point);
                point = found < 0 ? point : found + kills.get(0).length();
                return found < 0 ? -2 : 0;
        }
    }

    private int undo() {
        int number = lastWas(19) ? undone - 1 : steps.size();
        if (number < 1 || number <= steps.size() - 20) {
            return -2;
        }
        Step step = steps.get(number - 1);
        edit(step.place, step.in.length(), step.out);
        point = step.place + step.out.length();
        undone = number;
        return 0;
    }

    private List<String> allRows() {
        List<String> all = new ArrayList<>();
        for (String line : text.split("\n", -1)) {
            String rest = line;
            while (rest.length() >= columns) {
                all.add(rest.substring(0, columns));
                rest = rest.substring(columns);
            }
            all.add(rest);
        }
        return all;
    }

    private int pointRow() {
        int row = lineBefore().length() / columns;
        String[] before = text.substring(0, point).split("\n", -1);
        for (int i = 0; i < before.length - 1; i++) {
            row += before[i].length() / columns + 1;
        }
        return row;
    }

    private void scroll() {
        while (pointRow() < first) {
            first--;
        }
        while (pointRow() >= first + rows) {
            first++;
        }
    }
}
