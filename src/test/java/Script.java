import java.lang.reflect.Method;
import java.lang.reflect.Modifier;
import java.util.ArrayList;
import java.util.HashMap;
import java.util.List;
import java.util.Map;
import java.util.Set;
import java.util.function.Consumer;
import java.util.regex.Matcher;
import java.util.regex.Pattern;

/**
 * A run of calls on a new object, told in lines:
 * <pre>
 *   person(GUEST, 3) = 0      the call and the answer that is due (a number or a finding's name)
 *   minutes(8)                any answer but a finding is due
 *   8 * person(GUEST, 0)      the call so many times
 *   feed "guest 3"            a text for the tape, four bytes a call
 *   new                       what follows is asked of another new object
 *   # ..                      a remark
 * </pre>
 * After each call that answers a finding or only asks, it is looked at that nothing has changed but status().
 */
final class Script {
    private static final Pattern FED = Pattern.compile("feed \"(.*)\"");
    private static final Pattern CALL =
        Pattern.compile("(?:(\\d+) \\* )?(\\w+)\\(([^)]*)\\)(?: = (\\S+))?");
    /** The acts that answer and leave all as it is, AHEAD among them. */
    private static final Set<String> ASKING = Set.of("now", "who", "of", "as", "on", "harmony", "comes", "plays",
        "meet", "begin", "kind", "quick", "compose", "deceive", "worst", "read", "count", "status");
    private static final Map<String, Long> NAMES = new HashMap<>();
    private static final Map<String, Method> FACE = new HashMap<>();

    static {
        String[] findings = {"BEYOND", "FULL", "KIND", "NONE", "STATE", "MISSING", "SIZE"};
        for (int i = 0; i < findings.length; i++) {
            NAMES.put(findings[i], -1000000001L - i);
        }
        String[] kinds = {"GUEST", "ENEMY", "SINGER", "LATE", "DIVA", "RIVAL"};
        for (int i = 0; i < kinds.length; i++) {
            NAMES.put(kinds[i], (long) i);
        }
        NAMES.put("MIN", (long) Integer.MIN_VALUE);
        NAMES.put("MAX", (long) Integer.MAX_VALUE);
        NAMES.put("LONG_MIN", Long.MIN_VALUE);
        NAMES.put("LONG_MAX", Long.MAX_VALUE);
        for (Method m : ComposedInterval.class.getDeclaredMethods()) {
            if (Modifier.isPublic(m.getModifiers())) {
                FACE.put(m.getName(), m);
            }
        }
    }

    /** A call as it was made, so that it can be made again on a twin. */
    record Act(String name, long[] arguments) {
        long on(ComposedInterval x) {
            Class<?>[] types = FACE.get(name).getParameterTypes();
            Object[] boxed = new Object[types.length];
            for (int i = 0; i < types.length; i++) {
                boxed[i] = types[i] == long.class ? (Object) arguments[i] : (Object) (int) arguments[i];
            }
            try {
                return ((Number) FACE.get(name).invoke(x, boxed)).longValue();
            } catch (ReflectiveOperationException e) {
                throw new IllegalStateException(name + " threw", e.getCause());
            }
        }
    }

    private final Consumer<String> report;
    private ComposedInterval x = new ComposedInterval();
    private List<Act> changes = new ArrayList<>();
    private int calls = 0;
    private int asked = 0;

    private Script(Consumer<String> report) {
        this.report = report;
    }

    /** Goes through a run, and reports what is not as due: how many answers were asked. */
    static int go(String lines, Consumer<String> report) {
        Script script = new Script(report);
        for (String line : lines.split("\n")) {
            script.take(line.strip());
        }
        return script.asked;
    }

    private void take(String line) {
        Matcher fed = FED.matcher(line);
        Matcher call = CALL.matcher(line);
        if (line.isEmpty() || line.startsWith("#")) {
            return;
        }
        if (line.equals("new")) {
            x = new ComposedInterval();
            changes = new ArrayList<>();
            calls = 0;
        } else if (fed.matches()) {
            feed(fed.group(1));
        } else if (call.matches() && FACE.containsKey(call.group(2))) {
            Act act = new Act(call.group(2), values(call.group(3)));
            int times = call.group(1) == null ? 1 : Integer.parseInt(call.group(1));
            for (int i = 0; i < times; i++) {
                look(line, act, call.group(4));
            }
        } else {
            report.accept("no line of a run: " + line);
        }
    }

    private static long[] values(String list) {
        if (list.isBlank()) {
            return new long[0];
        }
        String[] words = list.split(",");
        long[] values = new long[words.length];
        for (int i = 0; i < words.length; i++) {
            values[i] = value(words[i].strip());
        }
        return values;
    }

    private static long value(String word) {
        return NAMES.containsKey(word) ? NAMES.get(word) : Long.decode(word);
    }

    private void feed(String text) {
        for (int i = 0; i < text.length(); i += 4) {
            int n = Math.min(4, text.length() - i);
            int bytes = 0;
            for (int j = 0; j < n; j++) {
                bytes = bytes << 8 | text.charAt(i + j);
            }
            look("feed \"" + text + "\"", new Act("feed", new long[] {bytes, n}), null);
        }
    }

    private void look(String line, Act act, String due) {
        long got = act.on(x);
        calls++;
        asked++;
        if (calls > 512) {
            report.accept("more than 512 calls: " + line);
        }
        // A number of 64 bits may be as low as a finding: then the line tells it as a number.
        boolean isFinding = got < -1000000000L && (due == null || NAMES.containsKey(due) || got >= -1000000007L);
        if (due == null ? isFinding : got != value(due)) {
            report.accept(line + " answered " + got);
        }
        if (!isFinding && !ASKING.contains(act.name())) {
            changes.add(act);
        } else if (changes.size() <= 100) {
            lookForChanges(line, act, isFinding ? (int) (-1000000001L - got) : -1);
        }
    }

    /** The run so far is made twice more, once with the act and once without: all is the same then. */
    private void lookForChanges(String line, Act act, int finding) {
        for (int part = 0; part < State.PARTS; part++) {
            ComposedInterval with = again();
            act.on(with);
            List<String> found = State.told(with, part, finding);
            List<String> due = State.told(again(), part, -1);
            for (int i = 0; i < Math.max(found.size(), due.size()); i++) {
                String f = i < found.size() ? found.get(i) : "nothing";
                String d = i < due.size() ? due.get(i) : "nothing";
                if (!f.equals(d)) {
                    report.accept(line + " changed something: " + f + ", due is " + d);
                    return;
                }
            }
        }
    }

    private ComposedInterval again() {
        ComposedInterval twin = new ComposedInterval();
        for (Act act : changes) {
            act.on(twin);
        }
        return twin;
    }
}
