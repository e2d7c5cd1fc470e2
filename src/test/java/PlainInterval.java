import java.util.ArrayList;
import java.util.List;
import java.util.regex.Matcher;
import java.util.regex.Pattern;

/**
 * The document written down a second time, in another way: rules by a kind's name, worlds copied at
 * every step, findings thrown, tokens found by patterns. Slow; only for comparing answers.
 */
final class PlainInterval {
    private static final String[] NAMES = {"guest", "enemy", "singer", "late", "diva", "rival"};
    private static final List<String> FINDINGS =
        List.of("BEYOND", "FULL", "KIND", "NONE", "STATE", "MISSING", "SIZE");

    private static final class Finding extends RuntimeException {
        private Finding(String name) {
            super(name, null, false, false);
        }
    }

    private record One(String kind, int at, int quick, int played, int spoilt) {
        private One with(int what, int v) {
            return new One(what == 0 ? NAMES[v] : kind, what == 1 ? v : at, what == 2 ? v : quick,
                what == 3 ? v : played, what == 4 ? v : spoilt);
        }

        private int get(int what) {
            return new int[] {List.of(NAMES).indexOf(kind), at, quick, played, spoilt}[what];
        }
    }

    private record World(int minute, List<Integer> score, List<Integer> bells, List<One> people, int inTime) {
        private int spot() {
            return score.get(quarter());
        }

        private int quarter() {
            return (minute / 8) % 6;
        }

        private int bell() {
            return bells.lastIndexOf(minute % 48);
        }

        private World withOne(int p, One one) {
            return new World(minute, score, bells, changed(people, p, one), inTime);
        }

        private World withScore(int q, int v) {
            return new World(minute, changed(score, q, v), bells, people, inTime);
        }

        private World withBell(int b, int v) {
            return new World(minute, score, changed(bells, b, v), people, inTime);
        }

        private World and(One one) {
            List<One> more = new ArrayList<>(people);
            more.add(one);
            return new World(minute, score, bells, more, inTime);
        }

        private int scoreDue(String kind, One one) {
            int s = spot();
            return switch (kind) {
                case "guest" -> s;
                case "enemy" -> 11 - s;
                case "singer" -> quarter() == 1 || quarter() == 3 || quarter() == 5 ? 11 : scoreDue("guest", one);
                case "late" -> (one.at + 1) % 12;
                case "diva" -> (minute + 1) % 8 == 0 ? 5 : scoreDue("singer", one);
                default -> scoreDue("enemy", one) == 0 ? 0 : scoreDue("enemy", one) - 1;
            };
        }

        private boolean hears(String kind, One one) {
            return switch (kind) {
                case "guest" -> one.played < 10;
                case "enemy" -> hears("guest", one);
                case "singer" -> true;
                case "late", "diva" -> false;
                default -> bells.get(2) != minute % 48 && hears("enemy", one);
            };
        }

        private int due(One one) {
            return bell() != -1 && hears(one.kind, one) ? 0 : scoreDue(one.kind, one);
        }

        private int walks(String kind, int p) {
            One one = people.get(p);
            switch (kind) {
                case "guest":
                    return one.quick;
                case "singer":
                    return 1;
                case "late":
                    return walks("guest", p) * 2;
                case "diva":
                    return walks("singer", p) + one.quick;
                case "rival":
                    return walks("enemy", p);
                default:
                    int next = one.at + Integer.signum(due(one) - one.at);
                    for (int q = 0; q < people.size(); q++) {
                        if (next != one.at && q != p && people.get(q).at == next) {
                            return 0;
                        }
                    }
                    return walks("guest", p);
            }
        }

        private static int spoils(String kind) {
            return switch (kind) {
                case "guest" -> 1;
                case "enemy" -> spoils("guest") + 1;
                case "singer" -> 0;
                case "late" -> 5;
                case "diva" -> spoils("singer") + 3;
                default -> spoils("enemy") * 2;
            };
        }

        private World minuteOn() {
            World w = this;
            int[] due = new int[people.size()];
            for (int p = 0; p < people.size(); p++) {
                One one = w.people.get(p);
                due[p] = w.due(one);
                int spots = w.walks(one.kind, p);
                int at = one.at;
                for (int i = 0; i < spots && at != due[p]; i++) {
                    at += at < due[p] ? 1 : -1;
                }
                w = w.withOne(p, one.with(1, at));
            }
            int set = 0;
            for (int p = 0; p < people.size(); p++) {
                One one = w.people.get(p);
                if (one.at == due[p]) {
                    set += 1 << p;
                    w = w.withOne(p, one.with(3, Math.min(9999, one.played + 1)));
                } else {
                    w = w.withOne(p, one.with(4, Math.min(9999, one.spoilt + spoils(one.kind))));
                }
            }
            return new World(minute + 1, score, bells, w.people, set);
        }

        private World on(int n) {
            World w = this;
            for (int i = 0; i < n; i++) {
                w = w.minuteOn();
            }
            return w;
        }

        private int played() {
            return people.stream().mapToInt(One::played).sum();
        }

        private int spoilt() {
            return people.stream().mapToInt(One::spoilt).sum();
        }
    }

    private static <T> List<T> changed(List<T> row, int i, T v) {
        List<T> other = new ArrayList<>(row);
        other.set(i, v);
        return other;
    }

    private World world = new World(0, List.of(0, 5, 10, 3, 8, 1), List.of(10, 20, 30), List.of(), 0);
    private World image = null;
    private String tape = "";
    private final int[] bits = new int[4];
    private final long[][] sheets = new long[4][];
    private final int[] told = new int[7];

    /** The answer of a call by its name. */
    long call(String name, long[] a) {
        try {
            return answer(name, a);
        } catch (Finding f) {
            int i = FINDINGS.indexOf(f.getMessage());
            told[i]++;
            return -1000000001L - i;
        }
    }

    private static void within(long v, long least, long most) {
        if (v < least || v > most) {
            throw new Finding("BEYOND");
        }
    }

    private void one(long p) {
        within(p, 0, world.people.size() - 1);
    }

    private long answer(String name, long[] a) {
        int[] i = new int[6];
        for (int j = 0; j < a.length; j++) {
            i[j] = (int) a[j];
        }
        return switch (name) {
            case "score", "bell", "now", "who" -> scoreCalls(name, i);
            case "person", "of", "set", "turn", "as" -> peopleCalls(name, i);
            case "minutes", "on", "harmony", "comes", "plays", "meet" -> minuteCalls(name, i);
            case "begin", "kind", "quick", "compose", "deceive", "worst" -> bestCalls(name, i);
            case "feed", "wipe", "interval" -> textCalls(name, i);
            case "sheet", "write", "copy", "lays", "book", "read" -> sheetCalls(name, i, a);
            default -> imageCalls(name, i);
        };
    }

    private long scoreCalls(String name, int[] a) {
        int was;
        switch (name) {
            case "score":
                within(a[0], 0, 5);
                within(a[1], 0, 11);
                was = world.score.get(a[0]);
                world = world.withScore(a[0], a[1]);
                return was;
            case "bell":
                within(a[0], 0, 2);
                within(a[1], 0, 47);
                was = world.bells.get(a[0]);
                world = world.withBell(a[0], a[1]);
                return was;
            case "who":
                within(a[0], 0, 11);
                return setOf(p -> world.people.get(p).at == a[0]);
            default:
                within(a[0], 0, 5);
                return new int[] {world.minute, world.quarter(), world.spot(), world.bell(),
                    setOf(p -> world.people.get(p).at == world.due(world.people.get(p))),
                    100000 + world.played() - world.spoilt()}[a[0]];
        }
    }

    private int setOf(java.util.function.IntPredicate in) {
        return java.util.stream.IntStream.range(0, world.people.size()).filter(in).map(p -> 1 << p).sum();
    }

    private long peopleCalls(String name, int[] a) {
        if (name.equals("person")) {
            within(a[0], 0, 5);
            within(a[1], 0, 11);
            if (world.people.size() == 8) {
                throw new Finding("FULL");
            }
            world = world.and(new One(NAMES[a[0]], a[1], 1, 0, 0));
            return world.people.size() - 1;
        }
        one(a[0]);
        One one = world.people.get(a[0]);
        switch (name) {
            case "of":
                within(a[1], 0, 8);
                return a[1] < 5 ? one.get(a[1])
                    : a[1] == 5 ? world.due(one)
                    : a[1] == 6 ? (world.bell() >= 0 && world.hears(one.kind, one) ? 1 : 0)
                    : a[1] == 7 ? world.walks(one.kind, a[0])
                    : World.spoils(one.kind);
            case "set":
                within(a[1], 1, 4);
                within(a[2], a[1] == 2 ? 1 : 0, new int[] {0, 11, 4, 9999, 9999}[a[1]]);
                world = world.withOne(a[0], one.with(a[1], a[2]));
                return one.get(a[1]);
            case "turn":
                within(a[1], 0, 5);
                world = world.withOne(a[0], one.with(0, a[1]));
                return one.get(0);
            default:
                within(a[1], 0, 5);
                String asked = NAMES[a[1]];
                boolean under = asked.equals("guest")
                    || asked.equals("singer") && one.kind.equals("diva")
                    || asked.equals("enemy") && one.kind.equals("rival");
                if (!under && !asked.equals(one.kind)) {
                    throw new Finding("KIND");
                }
                return one.played;
        }
    }

    private interface Test {
        boolean holds(World w);
    }

    private int first(int from, Test test) {
        World w = world.on(from);
        for (int n = from; n <= 300; n++) {
            if (test.holds(w)) {
                return n;
            }
            w = w.minuteOn();
        }
        throw new Finding("NONE");
    }

    private long minuteCalls(String name, int[] a) {
        switch (name) {
            case "minutes":
                within(a[0], 1, 200);
                if (world.minute + a[0] > 99999) {
                    throw new Finding("STATE");
                }
                world = world.on(a[0]);
                return world.inTime;
            case "harmony":
                within(a[0], 0, 300);
                World w = world.on(a[0]);
                return w.played() - w.spoilt();
            case "on":
                one(a[0]);
                within(a[1], 0, 300);
                within(a[2], 0, 2);
                return world.on(a[1]).people.get(a[0]).get(new int[] {1, 3, 4}[a[2]]);
            case "comes":
                one(a[0]);
                within(a[1], 0, 11);
                return first(0, v -> v.people.get(a[0]).at == a[1]);
            case "plays":
                one(a[0]);
                int before = world.people.get(a[0]).played;
                return first(1, v -> v.people.get(a[0]).played > before);
            default:
                one(a[0]);
                one(a[1]);
                if (a[0] == a[1]) {
                    throw new Finding("BEYOND");
                }
                return first(0, v -> v.people.get(a[0]).at == v.people.get(a[1]).at);
        }
    }

    private interface Change {
        World tried(int v);
    }

    private interface Worth {
        int of(World w);
    }

    private static int best(int from, int to, Change change, Worth worth) {
        int best = from;
        for (int v = to; v >= from; v--) {
            if (worth.of(change.tried(v)) >= worth.of(change.tried(best)) || v == to) {
                best = v;
            }
        }
        return best;
    }

    private long bestCalls(String name, int[] a) {
        switch (name) {
            case "begin":
                one(a[0]);
                within(a[1], 1, 100);
                return best(0, 11, v -> world.withOne(a[0], world.people.get(a[0]).with(1, v)).on(a[1]),
                    w -> w.people.get(a[0]).played);
            case "kind":
                one(a[0]);
                within(a[1], 1, 100);
                return best(0, 5, v -> world.withOne(a[0], world.people.get(a[0]).with(0, v)).on(a[1]),
                    w -> w.people.get(a[0]).played);
            case "quick":
                one(a[0]);
                within(a[1], 1, 100);
                within(a[2], 0, 9999);
                for (int v = 1; v <= 4; v++) {
                    if (world.withOne(a[0], world.people.get(a[0]).with(2, v)).on(a[1]).people.get(a[0]).played >= a[2]) {
                        return v;
                    }
                }
                throw new Finding("NONE");
            case "compose":
                within(a[0], 0, 5);
                within(a[1], 1, 100);
                return best(0, 11, v -> world.withScore(a[0], v).on(a[1]), w -> w.played() - w.spoilt());
            case "deceive":
                within(a[0], 0, 2);
                within(a[1], 1, 60);
                return best(0, 47, v -> world.withBell(a[0], v).on(a[1]), w -> w.spoilt() - w.played());
            default:
                within(a[0], 0, 300);
                if (world.people.isEmpty()) {
                    throw new Finding("NONE");
                }
                World w = world.on(a[0]);
                return best(0, w.people.size() - 1, v -> w.withBell(0, v), t -> w.people.get(t.bells.get(0)).spoilt);
        }
    }

    private long textCalls(String name, int[] a) {
        int had = tape.length();
        switch (name) {
            case "feed":
                within(a[1], 1, 4);
                if (had + a[1] > 120) {
                    throw new Finding("FULL");
                }
                byte[] four = java.nio.ByteBuffer.allocate(4).putInt(a[0]).array();
                tape += new String(four, 4 - a[1], a[1], java.nio.charset.StandardCharsets.ISO_8859_1);
                return had + a[1];
            case "wipe":
                tape = "";
                return had;
            default:
                String text = tape;
                tape = "";
                return interval(text);
        }
    }

    private static final Pattern TOKEN = Pattern.compile(" *([a-z]+|[0-9]+|;|[^ ]|$)", Pattern.DOTALL);

    /** By a machine of states: what is expected is told by the item's tokens so far. */
    private long interval(String text) {
        World w = world;
        List<String> item = new ArrayList<>();
        int items = 0;
        Matcher m = TOKEN.matcher(text);
        for (int from = 0; m.find(from); from = m.end()) {
            String t = m.group(1);
            boolean ends = t.isEmpty();
            if (isWhole(item) && (ends || t.equals(";"))) {
                items++;
                w = performed(w, item);
                item.clear();
                if (ends) {
                    world = w;
                    return items;
                }
                continue;
            }
            boolean ninth = item.isEmpty() && List.of(NAMES).contains(t) && w.people.size() == 8;
            if (ends || ninth || !mayStand(item, t)) {
                return -1 - (ends ? text.length() : m.start(1));
            }
            item.add(t);
        }
        throw new IllegalStateException("a text always ends");
    }

    private static boolean isPerson(List<String> item) {
        return List.of(NAMES).contains(item.get(0));
    }

    private static boolean isWhole(List<String> item) {
        if (item.isEmpty()) {
            return false;
        }
        return isPerson(item) ? item.size() == 2 || item.size() == 4 : item.size() == 3;
    }

    private static boolean mayStand(List<String> item, String t) {
        if (item.isEmpty()) {
            return t.equals("score") || t.equals("bell") || List.of(NAMES).contains(t);
        }
        int n = item.size();
        if (isPerson(item)) {
            return n == 1 ? isNumber(t, 0, 11) : n == 2 ? t.equals("quick") : n == 3 && isNumber(t, 1, 4);
        }
        boolean score = item.get(0).equals("score");
        return n == 1 ? isNumber(t, 0, score ? 5 : 2) : n == 2 && isNumber(t, 0, score ? 11 : 47);
    }

    private static boolean isNumber(String t, int least, int most) {
        if (!t.matches("[0-9]+")) {
            return false;
        }
        java.math.BigInteger v = new java.math.BigInteger(t);
        return v.bitLength() < 20 && v.intValue() >= least && v.intValue() <= most;
    }

    private static World performed(World w, List<String> item) {
        int first = Integer.parseInt(item.get(1));
        if (isPerson(item)) {
            return w.and(new One(item.get(0), first, item.size() == 4 ? Integer.parseInt(item.get(3)) : 1, 0, 0));
        }
        int second = Integer.parseInt(item.get(2));
        return item.get(0).equals("score") ? w.withScore(first, second) : w.withBell(first, second);
    }

    private void there(int s) {
        within(s, 0, 3);
        if (sheets[s] == null) {
            throw new Finding("MISSING");
        }
    }

    private long sheetCalls(String name, int[] a, long[] longs) {
        switch (name) {
            case "sheet":
                within(a[0], 0, 3);
                if (!List.of(0, 8, 16, 64).contains(a[1])) {
                    throw new Finding("BEYOND");
                }
                if (a[2] < 0) {
                    throw new Finding("SIZE");
                }
                within(a[2], 0, 40);
                bits[a[0]] = a[1];
                sheets[a[0]] = a[1] == 0 ? null : new long[a[2]];
                return a[1] == 0 ? 0 : a[2];
            case "write":
                there(a[0]);
                within(a[1], 0, sheets[a[0]].length - 1);
                long was = sheets[a[0]][a[1]];
                int lost = 64 - bits[a[0]];
                sheets[a[0]][a[1]] = longs[2] << lost >> lost;
                return was;
            case "copy":
                return copied(a);
            case "lays":
                there(a[0]);
                int came = 0;
                for (int q = 0; q < Math.min(6, sheets[a[0]].length); q++) {
                    long v = sheets[a[0]][q];
                    if (0 <= v && v < 12) {
                        world = world.withScore(q, (int) v);
                        came++;
                    }
                }
                return came;
            case "book":
                there(a[0]);
                one(a[1]);
                for (int n = 0; n < sheets[a[0]].length; n++) {
                    sheets[a[0]][n] = world.on(n).people.get(a[1]).at;
                }
                return sheets[a[0]].length;
            default:
                there(a[0]);
                one(a[1]);
                return pairs(sheets[a[0]], a[1]);
        }
    }

    private long copied(int[] a) {
        within(a[0], 0, 3);
        within(a[2], 0, 3);
        there(a[0]);
        there(a[2]);
        if (bits[a[0]] != bits[a[2]]) {
            throw new Finding("KIND");
        }
        within(a[1], 0, sheets[a[0]].length);
        within(a[3], 0, sheets[a[2]].length);
        within(a[4], 0, Math.min(sheets[a[0]].length - a[1], sheets[a[2]].length - a[3]));
        long[] all = sheets[a[0]].clone();
        for (int i = 0; i < a[4]; i++) {
            sheets[a[2]][a[3] + i] = all[a[1] + i];
        }
        return a[4];
    }

    private int pairs(long[] sheet, int p) {
        int pairs = 0;
        for (int kind = 0; kind < 6; kind++) {
            for (int quick = 1; quick <= 4; quick++) {
                World w = world.withOne(p, world.people.get(p).with(0, kind).with(2, quick));
                int n = 0;
                for (; n < sheet.length && sheet[n] == w.people.get(p).at; n++) {
                    w = w.minuteOn();
                }
                pairs += n == sheet.length ? 1 : 0;
            }
        }
        return pairs;
    }

    private long imageCalls(String name, int[] a) {
        switch (name) {
            case "image":
                image = world;
                return 1;
            case "undo":
                if (image == null) {
                    throw new Finding("NONE");
                }
                world = image;
                return world.people.size();
            case "tear":
                boolean was = image != null;
                image = null;
                return was ? 1 : 0;
            case "count":
                within(a[0], 0, 3);
                return new int[] {world.people.size(), tape.length(), world.played(), world.spoilt()}[a[0]];
            default:
                within(a[0], -1, 6);
                return a[0] < 0 ? java.util.Arrays.stream(told).sum() : told[a[0]];
        }
    }
}
