import java.util.ArrayList;
import java.util.LinkedHashMap;
import java.util.List;
import java.util.Map;
import java.util.function.Supplier;
import java.util.function.ToIntFunction;

/**
 * "A call whose answer is below 0 changes nothing but what is said": two objects are made alike, one of them gets the
 * call, and both must then answer alike, whatever is done next. So what no call tells (the goal column, the step that
 * is undone next, the bindings, ..) is compared too.
 */
final class Twins {
    private static final int COMMANDS = 22;
    private static final int KEYS = 16;

    private Twins() {
    }

    /** The call must answer what is due and change nothing. */
    static void unchanged(Check check, Supplier<EditorCore> start, String call, ToIntFunction<EditorCore> made, int want) {
        check.due(call, made.applyAsInt(start.get()), want);
        alike(check, call, start, () -> {
            EditorCore x = start.get();
            made.applyAsInt(x);
            return x;
        });
    }

    /** The call must be refused and change nothing, whatever was before it. */
    static void refused(Check check, String call, ToIntFunction<EditorCore> made) {
        starts().forEach((name, start) -> unchanged(check, start, call + " when " + name, made, EditorCore.REFUSED));
    }

    /** Objects made in the two ways must answer alike to all that comes next. */
    static void alike(Check check, String what, Supplier<EditorCore> one, Supplier<EditorCore> other) {
        for (Probe probe : probes()) {
            check.due(what + ", then " + probe.name, probe.on(other.get()), probe.on(one.get()));
        }
    }

    private static final class Probe {
        final String name;
        final List<ToIntFunction<EditorCore>> calls;

        Probe(String name, List<ToIntFunction<EditorCore>> calls) {
            this.name = name;
            this.calls = calls;
        }

        String on(EditorCore x) {
            StringBuilder all = new StringBuilder();
            for (ToIntFunction<EditorCore> call : calls) {
                all.append(call.applyAsInt(x)).append(' ');
            }
            return all.append(Check.state(x)).toString();
        }
    }

    private static List<Probe> probes() {
        List<Probe> all = new ArrayList<>();
        all.add(new Probe("nothing", List.of()));
        all.add(new Probe("typing", List.of(x -> x.type('q'))));
        all.add(new Probe("moving and typing", List.of(x -> x.command(1), x -> x.type('q'), x -> x.type('q'))));
        for (int number = 0; number < COMMANDS; number++) {
            int called = number;
            all.add(new Probe("command(" + number + ")", List.of(x -> x.command(called))));
            all.add(new Probe("command(" + number + ") twice", List.of(x -> x.command(called), x -> x.command(called))));
        }
        for (int key = 0; key < KEYS; key++) {
            int pressed = key;
            all.add(new Probe("press(" + key + ")", List.of(x -> x.press(pressed))));
        }
        all.add(new Probe("press(1), press(2), press(3)", List.of(x -> x.press(1), x -> x.press(2), x -> x.press(3))));
        all.add(new Probe("ending the macro", List.of(x -> x.macro(false), x -> x.command(21))));
        return all;
    }

    /** Objects in which something waits to be done next: each by its name. */
    private static Map<String, Supplier<EditorCore>> starts() {
        Map<String, Supplier<EditorCore>> all = new LinkedHashMap<>();
        all.put("new", EditorCore::new);
        all.put("typed", Twins::typed);
        all.put("the goal column is kept", () -> behind("abcdef/gh/ijklm|n", 3));
        all.put("killed", () -> behind("|ab/cd/e", 10));
        all.put("yanked", () -> behind("|abbccc/", 15, 0, 11, 0, 0, 11, 15, 10, 13, 14));
        all.put("undone", () -> behind("abc|def", 9, 8, 17, 1, 9, 19, 19));
        all.put("keys are pending", Twins::pending);
        all.put("a macro was done", Twins::replayed);
        all.put("the frame was moved", () -> framed(true));
        all.put("the frame is to be moved", () -> framed(false));
        return all;
    }

    private static EditorCore behind(String letters, int... numbers) {
        EditorCore x = new Check().start(letters);
        for (int number : numbers) {
            x.command(number);
        }
        return x;
    }

    private static EditorCore typed() {
        EditorCore x = behind("ab/c");
        x.argument(3);
        return x;
    }

    private static EditorCore pending() {
        EditorCore x = behind("ab c|d");
        x.bind(1, 2, 3, 7);
        x.bind(1, 3, -1, 8);
        x.bind(4, -1, -1, 15);
        x.macro(true);
        x.press(4);
        x.type('e');
        x.press(1);
        x.press(2);
        x.argument(2);
        return x;
    }

    private static EditorCore replayed() {
        EditorCore x = behind("a|b");
        x.bind(5, -1, -1, 8);
        x.macro(true);
        x.press(5);
        x.macro(false);
        x.command(21);
        x.argument(4);
        return x;
    }

    /** Point is below the frame's rows and, if the frame was asked for, then went up within them. */
    private static EditorCore framed(boolean asked) {
        EditorCore x = behind("a/b/c/d/e/f|");
        x.frame(5, 3);
        for (int i = 0; i < 4; i++) {
            x.marker(i, i % 2 == 0);
            x.command(1);
        }
        if (asked) {
            x.info(10);
            x.command(3);
        }
        return x;
    }
}
