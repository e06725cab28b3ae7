import java.util.ArrayList;
import java.util.LinkedHashMap;
import java.util.List;
import java.util.Map;
import java.util.function.Supplier;

/**
 * All that can be asked of an object, by the calls that ask it, so that what a call changed can be
 * told. Some of it can only be read by changing something else: so it is read of several objects,
 * each made anew, in the same state.
 */
final class Probe {
    /** What a tape may hold so that its bytes can be told: REST is behind it. */
    static final String BEGUN = "boils 37;yi";
    private static final String REST = "elds 41;costs 43;";

    private final Map<String, Long> answers = new LinkedHashMap<>();

    static Map<String, Long> of(Supplier<InkOfLetters> made) {
        Probe probe = new Probe();
        probe.now("", made.get());
        probe.texts(made.get());
        probe.image(made.get());
        probe.tape(made.get());
        for (int s = 0; s < 4; s++) {
            probe.sheet(s, made.get());
        }
        return probe.answers;
    }

    /** What is otherwise in the second, by its answers there; none: as "call gone". */
    static List<String> changes(Map<String, Long> before, Map<String, Long> then) {
        List<String> changes = new ArrayList<>();
        for (Map.Entry<String, Long> e : then.entrySet()) {
            if (!e.getValue().equals(before.get(e.getKey()))) {
                changes.add(e.getKey() + " = " + e.getValue());
            }
        }
        for (String key : before.keySet()) {
            if (!then.containsKey(key)) {
                changes.add(key + " gone");
            }
        }
        return changes;
    }

    private void add(String call, long answer) {
        answers.put(call, answer);
    }

    private void now(String when, InkOfLetters x) {
        for (int what = 0; what < 6; what++) {
            add(when + "count(" + what + ")", x.count(what));
        }
        for (int p = 0; p < x.count(0); p++) {
            for (int what = 0; what < 9; what++) {
                add(when + "told(" + p + ", " + what + ")", x.told(p, what));
            }
        }
    }

    private void texts(InkOfLetters x) {
        for (int t = 0; t < x.count(3); t++) {
            x.force(t);
            for (int p = 0; p < x.count(0); p++) {
                for (int part = 0; part < 3; part++) {
                    add("by text " + t + " asks(" + part + ", " + p + ")", x.asks(part, p));
                }
            }
        }
    }

    private void image(InkOfLetters x) {
        add("back()", x.back());
        now("back: ", x);
    }

    private void tape(InkOfLetters x) {
        Checks.feed(x, REST);
        int t = x.text();
        add("tape: text()", t);
        x.writer(0, 0, 0);
        x.force(t);
        for (int part = 0; part < 3; part++) {
            add("tape: asks(" + part + ", 0)", x.asks(part, 0));
        }
    }

    /**
     * A sheet's numbers are told by inks(): of 0, whose tone stays as it is behind a letter to 1,
     * the only tone that is as a sheet of one number tells is that number.
     */
    private void sheet(int s, InkOfLetters x) {
        String name = "sheet " + s;
        for (int sort = 0; sort < 3; sort++) {
            add(name + " of sort " + sort, x.writersBy(s, sort, 0, 0));
        }
        int size = 0;
        while (size < 40 && x.copy(s, size + 1, s, size + 1, 0) == 0) {
            size++;
        }
        add(name + " size", size);
        x.writer(0, 0, 0);
        x.writer(0, 0, 0);
        int post = (s + 1) % 4;
        int one = (s + 2) % 4;
        Checks.sheet(x, post, 0, 1);
        int sort = x.writersBy(s, 0, 0, 0) == 0 ? 0 : x.writersBy(s, 1, 0, 0) == 0 ? 1 : 2;
        x.sheet(one, sort, 1);
        for (int i = 0; i < size; i++) {
            x.copy(s, i, one, 0, 1);
            add(name + " at " + i, x.inks(post, one, 0, 0, 1));
        }
    }
}
