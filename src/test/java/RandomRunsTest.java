import java.lang.reflect.InvocationTargetException;
import java.lang.reflect.Method;
import java.util.ArrayDeque;
import java.util.Arrays;
import java.util.Comparator;
import java.util.Deque;
import java.util.HashMap;
import java.util.HashSet;
import java.util.Map;
import java.util.Random;
import java.util.Set;

/** Random runs of 512 calls, each answer compared with PlainInterval's. Arguments: runs, seed. */
public final class RandomRunsTest {
    private static final String TEXT_PIECES =
        "guest |enemy |singer|late|diva |rival |quick |score |bell |;|;|; | |0|1|2|3 |4|7 |11|12|47 |48 |999|1000|#|G|quic";
    private static final String[] NAMES = {"guest", "enemy", "singer", "late", "diva", "rival"};

    private final Random random;
    private final Method[] face;
    private final Deque<Integer> bytesLeft = new ArrayDeque<>();
    private final Set<String> seenFindings = new HashSet<>();

    private RandomRunsTest(long seed) {
        random = new Random(seed);
        face = Arrays.stream(ComposedInterval.class.getDeclaredMethods())
            .filter(m -> java.lang.reflect.Modifier.isPublic(m.getModifiers()))
            .sorted(Comparator.comparing(Method::getName)).toArray(Method[]::new);
    }

    public static void main(String[] args) throws Exception {
        int runs = args.length > 0 ? Integer.parseInt(args[0]) : 250;
        long seed = args.length > 1 ? Long.parseLong(args[1]) : 20261118L;
        RandomRunsTest test = new RandomRunsTest(seed);
        for (int r = 0; r < runs; r++) {
            if (!test.runAgrees(r)) {
                System.exit(1);
            }
        }
        System.out.println(runs + " runs agree; findings seen: " + test.seenFindings.size());
    }

    private boolean runAgrees(int run) throws Exception {
        ComposedInterval x = new ComposedInterval();
        PlainInterval plain = new PlainInterval();
        StringBuilder told = new StringBuilder();
        bytesLeft.clear();
        double wild = random.nextInt(3) == 0 ? 0.25 : 0.03;
        double rare = random.nextInt(4) == 0 ? 1 : 0.15;
        int people = random.nextInt(9);
        for (int call = 0; call < 512; call++) {
            Method m = call < people ? named("person") : chosen(rare);
            long[] a = arguments(m, wild);
            long want = plain.call(m.getName(), a);
            String text = m.getName() + Arrays.toString(a);
            told.append(text).append(" = ").append(want).append('\n');
            long got;
            try {
                got = answer(x, m, a);
            } catch (InvocationTargetException e) {
                System.out.println("run " + run + "\n" + told + text + " threw " + e.getCause());
                return false;
            }
            if (want < -1000000000L) {
                seenFindings.add(m.getName() + want);
            }
            if (got != want) {
                System.out.println("run " + run + "\n" + told + text + " answered " + got + ", due is " + want);
                return false;
            }
        }
        return true;
    }

    private Method named(String name) {
        return Arrays.stream(face).filter(m -> m.getName().equals(name)).findFirst().orElseThrow();
    }

    /** A text that has been begun is mostly fed to its end, and then performed. */
    private Method chosen(double rare) {
        if (!bytesLeft.isEmpty() && random.nextInt(20) > 0) {
            return named(bytesLeft.peek() == -1 ? "interval" : "feed");
        }
        if (random.nextInt(40) == 0) {
            bytesLeft.clear();
            for (char c : text().toCharArray()) {
                bytesLeft.add((int) c);
            }
            bytesLeft.add(-1);
            return named("wipe");
        }
        Method m = face[random.nextInt(face.length)];
        // Some calls are slow in PlainInterval, and some would leave little for the others to do.
        boolean isRare = Set.of("deceive", "compose", "begin", "tear", "turn").contains(m.getName());
        return isRare && random.nextDouble() > rare ? named("minutes") : m;
    }

    private String text() {
        StringBuilder b = new StringBuilder();
        String blank = random.nextBoolean() ? " " : "";
        for (int items = 1 + random.nextInt(6); items > 0; items--) {
            int form = random.nextInt(5);
            if (form == 0) {
                b.append("score").append(blank).append(random.nextInt(6)).append(' ').append(random.nextInt(12));
            } else if (form == 1) {
                b.append("bell").append(blank).append(random.nextInt(3)).append("  ").append(random.nextInt(48));
            } else {
                b.append(NAMES[random.nextInt(6)]).append(blank).append(random.nextInt(12));
                if (random.nextBoolean()) {
                    b.append(blank).append("quick").append(blank).append(1 + random.nextInt(4));
                }
            }
            b.append(items > 1 ? blank + ";" : blank);
        }
        String[] pieces = TEXT_PIECES.split("\\|");
        for (int faults = random.nextInt(3); faults > 0; faults--) {
            int at = random.nextInt(b.length());
            String piece = random.nextInt(8) == 0 ? "" + (char) random.nextInt(256) : pieces[random.nextInt(pieces.length)];
            b.replace(at, Math.min(b.length(), at + random.nextInt(4)), piece);
            if (b.length() == 0) {
                break;
            }
        }
        return b.length() > 120 ? b.substring(0, 120) : b.toString();
    }

    private static final Map<String, int[]> RANGES = new HashMap<>();

    static {
        // For each argument the least and the most that is no finding, or about that.
        String rows = "score 0 5 0 11;bell 0 2 0 47;now 0 5;who 0 11;person 0 5 0 11;of 0 7 0 8;set 0 7 1 4 0 13;"
            + "turn 0 7 0 5;as 0 7 0 5;minutes 1 200;on 0 7 0 300 0 2;harmony 0 300;comes 0 7 0 11;plays 0 7;"
            + "meet 0 7 0 7;begin 0 7 1 100;kind 0 7 1 100;quick 0 7 1 100 0 30;compose 0 5 1 100;deceive 0 2 1 60;"
            + "worst 0 300;feed 0 0 1 4;wipe;interval;sheet 0 3 0 3 0 40;write 0 3 0 12 0 0;copy 0 3 0 6 0 3 0 6 0 6;"
            + "lays 0 3;book 0 3 0 7;read 0 3 0 7;image;undo;tear;count 0 3;status -1 6";
        for (String row : rows.split(";")) {
            String[] words = row.split(" ");
            RANGES.put(words[0], Arrays.stream(words).skip(1).mapToInt(Integer::parseInt).toArray());
        }
    }

    private long[] arguments(Method m, double wild) {
        int[] ranges = RANGES.get(m.getName());
        long[] a = new long[m.getParameterCount()];
        for (int i = 0; i < a.length; i++) {
            a[i] = random.nextDouble() < wild ? wildValue(ranges[2 * i], ranges[2 * i + 1])
                : ranges[2 * i] + random.nextInt(ranges[2 * i + 1] - ranges[2 * i] + 1);
        }
        boolean tame = random.nextDouble() >= wild;
        switch (m.getName()) {
            case "minutes":
                a[0] = tame && random.nextInt(3) > 0 ? 1 + random.nextInt(20) : a[0];
                break;
            case "set":
                a[2] = tame ? setValue((int) a[1]) : a[2];
                break;
            case "sheet":
                a[1] = tame ? new int[] {0, 8, 16, 64}[random.nextInt(4)] : a[1];
                a[2] = tame && random.nextBoolean() ? random.nextInt(13) : a[2];
                break;
            case "write":
                a[2] = random.nextInt(3) > 0 ? random.nextInt(13) : random.nextLong() >> random.nextInt(64);
                break;
            case "feed":
                if (!bytesLeft.isEmpty()) {
                    nextBytes(a);
                } else {
                    a[0] = random.nextInt();
                }
                break;
            case "interval":
                bytesLeft.clear();
                break;
            default:
                break;
        }
        return a;
    }

    private long setValue(int what) {
        switch (what) {
            case 1:
                return random.nextInt(12);
            case 2:
                return 1 + random.nextInt(4);
            default:
                return random.nextInt(5) == 0 ? 9999 - random.nextInt(200) : random.nextInt(14);
        }
    }

    private void nextBytes(long[] a) {
        int n = 1 + random.nextInt(4);
        int bytes = random.nextInt();
        int fed = 0;
        while (fed < n && !bytesLeft.isEmpty() && bytesLeft.peek() >= 0) {
            bytes = bytes << 8 | bytesLeft.poll();
            fed++;
        }
        a[0] = bytes;
        a[1] = Math.max(1, fed);
    }

    private long wildValue(int least, int most) {
        int[] edges = {least - 1, most + 1, least, most, -1, Integer.MIN_VALUE, Integer.MAX_VALUE, random.nextInt()};
        return edges[random.nextInt(edges.length)];
    }

    private static long answer(ComposedInterval x, Method m, long[] a) throws Exception {
        Object[] boxed = new Object[a.length];
        Class<?>[] types = m.getParameterTypes();
        for (int i = 0; i < a.length; i++) {
            boxed[i] = types[i] == long.class ? (Object) a[i] : (Object) (int) a[i];
        }
        return ((Number) m.invoke(x, boxed)).longValue();
    }
}
