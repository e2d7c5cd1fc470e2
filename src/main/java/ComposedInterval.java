import java.util.Arrays;

/**
 * An interval that is composed: a foyer of spots in a row, a score that tells for each quarter
 * where one is due, people of kinds who walk there each in their own way, and bells that deceive.
 */
public final class ComposedInterval {
    private static final int BEYOND = -1000000001;
    private static final int FULL = -1000000002;
    private static final int KIND = -1000000003;
    private static final int NONE = -1000000004;
    private static final int STATE = -1000000005;
    private static final int MISSING = -1000000006;
    private static final int SIZE = -1000000007;
    private static final int FINDINGS = 7;

    private static final int SPOTS = 12;
    private static final int LAST_SPOT = 11;
    private static final int QUARTERS = 6;
    private static final int QUARTER_MINUTES = 8;
    private static final int BELLS = 3;
    private static final int ROUND_MINUTES = 48;
    private static final int LAST_MINUTE = 99999;
    private static final int PEOPLE = 8;
    private static final int KINDS = 6;
    private static final int QUICKEST = 4;
    private static final int MOST = 9999;
    private static final int FARTHEST = 300;
    private static final int TAPE_BYTES = 120;
    private static final int SHEETS = 4;
    private static final int SHEET_NUMBERS = 40;

    /** The kind above each kind; -1: none. */
    private static final int[] ABOVE = {-1, 0, 0, 0, 2, 1};

    private final Foyer present;
    private final Foyer trial;
    private final Foyer kept;
    private final Tape tape = new Tape();
    private final Sheet[] sheets = new Sheet[SHEETS];
    private final int[] told = new int[FINDINGS];
    private boolean isKept = false;

    public ComposedInterval() {
        Cast cast = new Cast();
        present = new Foyer(cast);
        trial = new Foyer(cast);
        kept = new Foyer(cast);
        for (int s = 0; s < SHEETS; s++) {
            sheets[s] = new Sheet();
        }
    }

    // ---- the score

    public int score(int quarter, int v) {
        if (isOutside(quarter, 0, QUARTERS - 1) || isNoSpot(v)) {
            return tell(BEYOND);
        }
        int was = present.score[quarter];
        present.score[quarter] = v;
        return was;
    }

    public int bell(int which, int minute) {
        if (isOutside(which, 0, BELLS - 1) || isOutside(minute, 0, ROUND_MINUTES - 1)) {
            return tell(BEYOND);
        }
        int was = present.bells[which];
        present.bells[which] = minute;
        return was;
    }

    public int now(int what) {
        present.look();
        switch (what) {
            case 0:
                return present.minute;
            case 1:
                return present.quarter;
            case 2:
                return present.spot;
            case 3:
                return present.ringing;
            case 4:
                return present.whoIsDueHere();
            case 5:
                return 100000 + present.sumHarmony();
            default:
                return tell(BEYOND);
        }
    }

    public int who(int spot) {
        if (isNoSpot(spot)) {
            return tell(BEYOND);
        }
        return present.whoIsAt(spot);
    }

    // ---- people

    public int person(int kind, int spot) {
        if (isNoKind(kind) || isNoSpot(spot)) {
            return tell(BEYOND);
        }
        if (present.people >= PEOPLE) {
            return tell(FULL);
        }
        present.admit(kind, spot, 1);
        return present.people - 1;
    }

    public int of(int person, int what) {
        if (isNobody(person)) {
            return tell(BEYOND);
        }
        present.look();
        switch (what) {
            case 0:
                return present.kind[person];
            case 1:
                return present.at[person];
            case 2:
                return present.quick[person];
            case 3:
                return present.played[person];
            case 4:
                return present.spoilt[person];
            case 5:
                return present.dueOf(person);
            case 6:
                return present.isDeceived(person) ? 1 : 0;
            case 7:
                return present.guest(person).walks(present, person, present.dueOf(person));
            case 8:
                return present.guest(person).spoils();
            default:
                return tell(BEYOND);
        }
    }

    public int set(int person, int what, int v) {
        if (isNobody(person)) {
            return tell(BEYOND);
        }
        switch (what) {
            case 1:
                return isNoSpot(v) ? tell(BEYOND) : exchange(present.at, person, v);
            case 2:
                return isOutside(v, 1, QUICKEST) ? tell(BEYOND) : exchange(present.quick, person, v);
            case 3:
                return isOutside(v, 0, MOST) ? tell(BEYOND) : exchange(present.played, person, v);
            case 4:
                return isOutside(v, 0, MOST) ? tell(BEYOND) : exchange(present.spoilt, person, v);
            default:
                return tell(BEYOND);
        }
    }

    public int turn(int person, int kind) {
        if (isNobody(person) || isNoKind(kind)) {
            return tell(BEYOND);
        }
        return exchange(present.kind, person, kind);
    }

    public int as(int person, int kind) {
        if (isNobody(person) || isNoKind(kind)) {
            return tell(BEYOND);
        }
        if (!isOfKind(present.kind[person], kind)) {
            return tell(KIND);
        }
        return present.played[person];
    }

    // ---- minutes

    public int minutes(int n) {
        if (isOutside(n, 1, 200)) {
            return tell(BEYOND);
        }
        if (present.minute + n > LAST_MINUTE) {
            return tell(STATE);
        }
        present.go(n);
        return present.inTime;
    }

    public int on(int person, int n, int what) {
        if (isNobody(person) || isOutside(n, 0, FARTHEST) || isOutside(what, 0, 2)) {
            return tell(BEYOND);
        }
        trial.become(present);
        trial.go(n);
        switch (what) {
            case 0:
                return trial.at[person];
            case 1:
                return trial.played[person];
            default:
                return trial.spoilt[person];
        }
    }

    public int harmony(int n) {
        if (isOutside(n, 0, FARTHEST)) {
            return tell(BEYOND);
        }
        trial.become(present);
        trial.go(n);
        return trial.sumHarmony();
    }

    public int comes(int person, int spot) {
        if (isNobody(person) || isNoSpot(spot)) {
            return tell(BEYOND);
        }
        trial.become(present);
        for (int n = 0; n <= FARTHEST; n++) {
            if (trial.at[person] == spot) {
                return n;
            }
            trial.passMinute();
        }
        return tell(NONE);
    }

    public int plays(int person) {
        if (isNobody(person)) {
            return tell(BEYOND);
        }
        trial.become(present);
        for (int n = 1; n <= FARTHEST; n++) {
            trial.passMinute();
            if (trial.played[person] > present.played[person]) {
                return n;
            }
        }
        return tell(NONE);
    }

    public int meet(int person, int other) {
        if (isNobody(person) || isNobody(other) || person == other) {
            return tell(BEYOND);
        }
        trial.become(present);
        for (int n = 0; n <= FARTHEST; n++) {
            if (trial.at[person] == trial.at[other]) {
                return n;
            }
            trial.passMinute();
        }
        return tell(NONE);
    }

    // ---- what is best

    public int begin(int person, int n) {
        if (isNobody(person) || isOutside(n, 1, 100)) {
            return tell(BEYOND);
        }
        return bestPlayed(trial.at, SPOTS, person, n);
    }

    public int kind(int person, int n) {
        if (isNobody(person) || isOutside(n, 1, 100)) {
            return tell(BEYOND);
        }
        return bestPlayed(trial.kind, KINDS, person, n);
    }

    public int quick(int person, int n, int v) {
        if (isNobody(person) || isOutside(n, 1, 100) || isOutside(v, 0, MOST)) {
            return tell(BEYOND);
        }
        for (int quick = 1; quick <= QUICKEST; quick++) {
            trial.become(present);
            trial.quick[person] = quick;
            trial.go(n);
            if (trial.played[person] >= v) {
                return quick;
            }
        }
        return tell(NONE);
    }

    public int compose(int quarter, int n) {
        if (isOutside(quarter, 0, QUARTERS - 1) || isOutside(n, 1, 100)) {
            return tell(BEYOND);
        }
        int best = 0;
        int most = 0;
        for (int spot = 0; spot < SPOTS; spot++) {
            trial.become(present);
            trial.score[quarter] = spot;
            trial.go(n);
            int sum = trial.sumHarmony();
            if (spot == 0 || sum > most) {
                most = sum;
                best = spot;
            }
        }
        return best;
    }

    public int deceive(int which, int n) {
        if (isOutside(which, 0, BELLS - 1) || isOutside(n, 1, 60)) {
            return tell(BEYOND);
        }
        int best = 0;
        int least = 0;
        for (int minute = 0; minute < ROUND_MINUTES; minute++) {
            trial.become(present);
            trial.bells[which] = minute;
            trial.go(n);
            int sum = trial.sumHarmony();
            if (minute == 0 || sum < least) {
                least = sum;
                best = minute;
            }
        }
        return best;
    }

    public int worst(int n) {
        if (isOutside(n, 0, FARTHEST)) {
            return tell(BEYOND);
        }
        if (present.people == 0) {
            return tell(NONE);
        }
        trial.become(present);
        trial.go(n);
        int worst = 0;
        for (int p = 1; p < trial.people; p++) {
            if (trial.spoilt[p] > trial.spoilt[worst]) {
                worst = p;
            }
        }
        return worst;
    }

    // ---- the text

    public int feed(int bytes, int n) {
        if (isOutside(n, 1, 4)) {
            return tell(BEYOND);
        }
        if (tape.length + n > TAPE_BYTES) {
            return tell(FULL);
        }
        for (int i = n - 1; i >= 0; i--) {
            tape.append((bytes >> (8 * i)) & 255);
        }
        return tape.length;
    }

    public int wipe() {
        int had = tape.length;
        tape.length = 0;
        return had;
    }

    public int interval() {
        // The items come to a trial first: with a fault none of them may have come.
        trial.become(present);
        int answer = tape.perform(trial);
        if (answer >= 0) {
            present.become(trial);
        }
        tape.length = 0;
        return answer;
    }

    // ---- sheets

    public int sheet(int s, int bits, int n) {
        if (isNoSheet(s) || (bits != 0 && bits != 8 && bits != 16 && bits != 64)) {
            return tell(BEYOND);
        }
        if (n < 0) {
            return tell(SIZE);
        }
        if (n > SHEET_NUMBERS) {
            return tell(BEYOND);
        }
        sheets[s].lay(bits, n);
        return sheets[s].size;
    }

    public long write(int s, int i, long v) {
        int finding = sheetFinding(s);
        if (finding != 0) {
            return tell(finding);
        }
        if (isOutside(i, 0, sheets[s].size - 1)) {
            return tell(BEYOND);
        }
        long was = sheets[s].numbers[i];
        sheets[s].numbers[i] = sheets[s].narrow(v);
        return was;
    }

    public int copy(int s, int from, int t, int to, int n) {
        if (isNoSheet(s) || isNoSheet(t)) {
            return tell(BEYOND);
        }
        if (sheets[s].isMissing() || sheets[t].isMissing()) {
            return tell(MISSING);
        }
        if (sheets[s].bits != sheets[t].bits) {
            return tell(KIND);
        }
        if (!sheets[s].hasRun(from, n) || !sheets[t].hasRun(to, n)) {
            return tell(BEYOND);
        }
        System.arraycopy(sheets[s].numbers, from, sheets[t].numbers, to, n);
        return n;
    }

    public int lays(int s) {
        int finding = sheetFinding(s);
        if (finding != 0) {
            return tell(finding);
        }
        int came = 0;
        for (int q = 0; q < QUARTERS && q < sheets[s].size; q++) {
            long v = sheets[s].numbers[q];
            if (v >= 0 && v <= LAST_SPOT) {
                present.score[q] = (int) v;
                came++;
            }
        }
        return came;
    }

    public int book(int s, int person) {
        int finding = sheetFinding(s);
        if (finding != 0) {
            return tell(finding);
        }
        if (isNobody(person)) {
            return tell(BEYOND);
        }
        trial.become(present);
        for (int n = 0; n < sheets[s].size; n++) {
            sheets[s].numbers[n] = trial.at[person];
            trial.passMinute();
        }
        return sheets[s].size;
    }

    public int read(int s, int person) {
        int finding = sheetFinding(s);
        if (finding != 0) {
            return tell(finding);
        }
        if (isNobody(person)) {
            return tell(BEYOND);
        }
        int pairs = 0;
        for (int kind = 0; kind < KINDS; kind++) {
            for (int quick = 1; quick <= QUICKEST; quick++) {
                trial.become(present);
                trial.kind[person] = kind;
                trial.quick[person] = quick;
                if (goesAsTold(sheets[s], person)) {
                    pairs++;
                }
            }
        }
        return pairs;
    }

    // ---- images

    public int image() {
        kept.become(present);
        isKept = true;
        return 1;
    }

    public int undo() {
        if (!isKept) {
            return tell(NONE);
        }
        present.become(kept);
        return present.people;
    }

    public int tear() {
        int was = isKept ? 1 : 0;
        isKept = false;
        return was;
    }

    public int count(int what) {
        switch (what) {
            case 0:
                return present.people;
            case 1:
                return tape.length;
            case 2:
                return present.sumOf(present.played);
            case 3:
                return present.sumOf(present.spoilt);
            default:
                return tell(BEYOND);
        }
    }

    public int status(int which) {
        if (isOutside(which, -1, FINDINGS - 1)) {
            return tell(BEYOND);
        }
        if (which >= 0) {
            return told[which];
        }
        int all = 0;
        for (int i = 0; i < FINDINGS; i++) {
            all += told[i];
        }
        return all;
    }

    // ---- what the calls ask

    /** Counts a finding on its way to the caller. */
    private int tell(int finding) {
        int i = BEYOND - finding;
        if (i >= 0 && i < FINDINGS) {
            told[i]++;
        }
        return finding;
    }

    /** The least of the values below a bound with which, in a row of the trial, one plays most. */
    private int bestPlayed(int[] row, int bound, int person, int n) {
        int best = 0;
        int most = -1;
        for (int v = 0; v < bound; v++) {
            trial.become(present);
            row[person] = v;
            trial.go(n);
            if (trial.played[person] > most) {
                most = trial.played[person];
                best = v;
            }
        }
        return best;
    }

    /** What stands against the use of a sheet: BEYOND, MISSING, or 0 for nothing. */
    private int sheetFinding(int s) {
        if (isNoSheet(s)) {
            return BEYOND;
        }
        return sheets[s].isMissing() ? MISSING : 0;
    }

    /** Whether the trial's minutes lead one just where the numbers tell. */
    private boolean goesAsTold(Sheet sheet, int person) {
        for (int n = 0; n < sheet.size; n++) {
            if (sheet.numbers[n] != trial.at[person]) {
                return false;
            }
            trial.passMinute();
        }
        return true;
    }

    private boolean isNobody(int person) {
        return person < 0 || person >= present.people;
    }

    private static boolean isOutside(int v, int least, int most) {
        return v < least || v > most;
    }

    private static boolean isNoSpot(int v) {
        return isOutside(v, 0, LAST_SPOT);
    }

    private static boolean isNoKind(int v) {
        return isOutside(v, 0, KINDS - 1);
    }

    private static boolean isNoSheet(int s) {
        return isOutside(s, 0, SHEETS - 1);
    }

    private static boolean isOfKind(int own, int asked) {
        int k = own;
        for (int level = 0; level < KINDS && k >= 0 && k < KINDS; level++) {
            if (k == asked) {
                return true;
            }
            k = ABOVE[k];
        }
        return false;
    }

    private static int exchange(int[] row, int person, int v) {
        int was = row[person];
        row[person] = v;
        return was;
    }

    /** All that the document's section 1 tells, but for the tape. */
    private static final class Foyer {
        private final Cast cast;
        private final int[] score = new int[QUARTERS];
        private final int[] bells = new int[BELLS];
        private final int[] kind = new int[PEOPLE];
        private final int[] at = new int[PEOPLE];
        private final int[] quick = new int[PEOPLE];
        private final int[] played = new int[PEOPLE];
        private final int[] spoilt = new int[PEOPLE];
        private int minute = 0;
        private int people = 0;

        // What look() found for the minute.
        private int quarter = 0;
        private int spot = 0;
        private int ringing = -1;

        // Of the minute that went last: where each was due, and the set of those in time.
        private final int[] wasDue = new int[PEOPLE];
        private int inTime = 0;

        private Foyer(Cast cast) {
            this.cast = cast;
            for (int q = 0; q < QUARTERS; q++) {
                score[q] = 5 * q % SPOTS;
            }
            for (int b = 0; b < BELLS; b++) {
                bells[b] = 10 * (b + 1);
            }
        }

        private void become(Foyer other) {
            System.arraycopy(other.score, 0, score, 0, QUARTERS);
            System.arraycopy(other.bells, 0, bells, 0, BELLS);
            System.arraycopy(other.kind, 0, kind, 0, PEOPLE);
            System.arraycopy(other.at, 0, at, 0, PEOPLE);
            System.arraycopy(other.quick, 0, quick, 0, PEOPLE);
            System.arraycopy(other.played, 0, played, 0, PEOPLE);
            System.arraycopy(other.spoilt, 0, spoilt, 0, PEOPLE);
            minute = other.minute;
            people = other.people;
        }

        /** The caller has seen that there is room. */
        private void admit(int newKind, int newSpot, int newQuick) {
            if (people >= PEOPLE) {
                return;
            }
            kind[people] = newKind;
            at[people] = newSpot;
            quick[people] = newQuick;
            played[people] = 0;
            spoilt[people] = 0;
            people++;
        }

        /** Finds what the minute, the score and the bells tell now; due and walks rest on it. */
        private void look() {
            quarter = minute / QUARTER_MINUTES % QUARTERS;
            spot = score[quarter];
            ringing = -1;
            int rest = minute % ROUND_MINUTES;
            for (int b = 0; b < BELLS; b++) {
                if (bells[b] == rest) {
                    ringing = b;
                }
            }
        }

        private Guest guest(int p) {
            return cast.numbered(kind[p]);
        }

        private boolean isDeceived(int p) {
            return ringing >= 0 && guest(p).hears(this, p);
        }

        private int dueOf(int p) {
            Guest guest = guest(p);
            return ringing >= 0 && guest.hears(this, p) ? 0 : guest.due(this, p);
        }

        private void go(int n) {
            for (int i = 0; i < n; i++) {
                passMinute();
            }
        }

        private void passMinute() {
            look();
            for (int p = 0; p < people; p++) {
                int due = dueOf(p);
                int way = due - at[p];
                int walks = Math.min(guest(p).walks(this, p, due), Math.abs(way));
                at[p] += way > 0 ? walks : -walks;
                wasDue[p] = due;
            }
            markMinute();
            minute++;
        }

        private void markMinute() {
            inTime = 0;
            for (int p = 0; p < people; p++) {
                if (at[p] == wasDue[p]) {
                    played[p] = Math.min(MOST, played[p] + 1);
                    inTime |= 1 << p;
                } else {
                    spoilt[p] = Math.min(MOST, spoilt[p] + guest(p).spoils());
                }
            }
        }

        /** Whether another one is at the next spot of one's way; one that is there has no way. */
        private boolean isBarred(int p, int due) {
            if (at[p] == due) {
                return false;
            }
            int next = at[p] < due ? at[p] + 1 : at[p] - 1;
            for (int other = 0; other < people; other++) {
                if (other != p && at[other] == next) {
                    return true;
                }
            }
            return false;
        }

        private int whoIsAt(int asked) {
            int found = 0;
            for (int p = 0; p < people; p++) {
                if (at[p] == asked) {
                    found |= 1 << p;
                }
            }
            return found;
        }

        private int whoIsDueHere() {
            int found = 0;
            for (int p = 0; p < people; p++) {
                if (at[p] == dueOf(p)) {
                    found |= 1 << p;
                }
            }
            return found;
        }

        private int sumOf(int[] row) {
            int sum = 0;
            for (int p = 0; p < people; p++) {
                sum += row[p];
            }
            return sum;
        }

        private int sumHarmony() {
            return sumOf(played) - sumOf(spoilt);
        }
    }

    /** One of each kind; they hold nothing of their own, so all people of a kind share it. */
    private static final class Cast {
        private final Guest guest = new Guest();
        private final Guest enemy = new Enemy();
        private final Guest singer = new Singer();
        private final Guest late = new Late();
        private final Guest diva = new Diva();
        private final Guest rival = new Rival();

        private Guest numbered(int kind) {
            switch (kind) {
                case 1:
                    return enemy;
                case 2:
                    return singer;
                case 3:
                    return late;
                case 4:
                    return diva;
                case 5:
                    return rival;
                default:
                    return guest;
            }
        }

        private static String nameOf(int kind) {
            switch (kind) {
                case 1:
                    return "enemy";
                case 2:
                    return "singer";
                case 3:
                    return "late";
                case 4:
                    return "diva";
                case 5:
                    return "rival";
                default:
                    return "guest";
            }
        }
    }

    /** Kind 0, and what the kinds under it change. The foyer has looked at its minute before. */
    private static class Guest {
        /** Where one is due, as long as no bell deceives it. */
        int due(Foyer foyer, int p) {
            return foyer.spot;
        }

        boolean hears(Foyer foyer, int p) {
            return foyer.played[p] < 10;
        }

        int walks(Foyer foyer, int p, int due) {
            return foyer.quick[p];
        }

        int spoils() {
            return 1;
        }
    }

    private static class Enemy extends Guest {
        int due(Foyer foyer, int p) {
            return LAST_SPOT - foyer.spot;
        }

        int walks(Foyer foyer, int p, int due) {
            return foyer.isBarred(p, due) ? 0 : super.walks(foyer, p, due);
        }

        int spoils() {
            return super.spoils() + 1;
        }
    }

    private static class Singer extends Guest {
        int due(Foyer foyer, int p) {
            return foyer.quarter % 2 == 1 ? LAST_SPOT : super.due(foyer, p);
        }

        boolean hears(Foyer foyer, int p) {
            return true;
        }

        int walks(Foyer foyer, int p, int due) {
            return 1;
        }

        int spoils() {
            return 0;
        }
    }

    private static final class Late extends Guest {
        int due(Foyer foyer, int p) {
            return foyer.at[p] >= LAST_SPOT ? 0 : foyer.at[p] + 1;
        }

        boolean hears(Foyer foyer, int p) {
            return false;
        }

        int walks(Foyer foyer, int p, int due) {
            return 2 * super.walks(foyer, p, due);
        }

        int spoils() {
            return 5;
        }
    }

    private static final class Diva extends Singer {
        int due(Foyer foyer, int p) {
            boolean isLast = foyer.minute % QUARTER_MINUTES == QUARTER_MINUTES - 1;
            return isLast ? 5 : super.due(foyer, p);
        }

        boolean hears(Foyer foyer, int p) {
            return false;
        }

        int walks(Foyer foyer, int p, int due) {
            return super.walks(foyer, p, due) + foyer.quick[p];
        }

        int spoils() {
            return super.spoils() + 3;
        }
    }

    private static final class Rival extends Enemy {
        int due(Foyer foyer, int p) {
            return Math.max(0, super.due(foyer, p) - 1);
        }

        boolean hears(Foyer foyer, int p) {
            return foyer.ringing != 2 && super.hears(foyer, p);
        }

        int spoils() {
            return 2 * super.spoils();
        }
    }

    /** A row of numbers; its room is made once and used again. */
    private static final class Sheet {
        private final long[] numbers = new long[SHEET_NUMBERS];
        private int bits = 0;
        private int size = 0;

        private void lay(int newBits, int n) {
            bits = newBits;
            size = newBits == 0 ? 0 : n;
            Arrays.fill(numbers, 0L);
        }

        private boolean isMissing() {
            return bits == 0;
        }

        /** A number of 8 or 16 bits has a sign, as one of 64 has. */
        private long narrow(long v) {
            if (bits == 8) {
                return (byte) v;
            }
            return bits == 16 ? (short) v : v;
        }

        private boolean hasRun(int from, int n) {
            return from >= 0 && n >= 0 && n <= size - from;
        }
    }

    /** The tape, and how its bytes are read as the text of an interval. */
    private static final class Tape {
        private static final int END = 0;
        private static final int WORD = 1;
        private static final int NUMBER = 2;
        private static final int SIGN = 3;
        private static final int NO_TOKEN = 4;

        private final int[] bytes = new int[TAPE_BYTES];
        private int length = 0;

        // The token that is looked at: from start to next, and a number's value.
        private int token = END;
        private int start = 0;
        private int next = 0;
        private int value = 0;

        private void append(int b) {
            if (length < TAPE_BYTES) {
                bytes[length] = b;
                length++;
            }
        }

        /** Brings the items to a foyer: how many, or -1 less the place of the fault. */
        private int perform(Foyer foyer) {
            next = 0;
            advance();
            for (int items = 1; items <= TAPE_BYTES; items++) {
                if (!takeItem(foyer)) {
                    return -1 - start;
                }
                if (token == END) {
                    return items;
                }
                if (token != SIGN) {
                    return -1 - start;
                }
                advance();
            }
            return -1 - start;
        }

        /** False: the token that is looked at can't stand there. */
        private boolean takeItem(Foyer foyer) {
            if (isWord("score")) {
                return takeScore(foyer);
            }
            if (isWord("bell")) {
                return takeBell(foyer);
            }
            for (int kind = 0; kind < KINDS; kind++) {
                if (isWord(Cast.nameOf(kind))) {
                    return takePerson(foyer, kind);
                }
            }
            return false;
        }

        private boolean takeScore(Foyer foyer) {
            advance();
            if (!isNumber(0, QUARTERS - 1)) {
                return false;
            }
            int quarter = value;
            advance();
            if (!isNumber(0, LAST_SPOT)) {
                return false;
            }
            foyer.score[quarter] = value;
            advance();
            return true;
        }

        private boolean takeBell(Foyer foyer) {
            advance();
            if (!isNumber(0, BELLS - 1)) {
                return false;
            }
            int which = value;
            advance();
            if (!isNumber(0, ROUND_MINUTES - 1)) {
                return false;
            }
            foyer.bells[which] = value;
            advance();
            return true;
        }

        private boolean takePerson(Foyer foyer, int kind) {
            if (foyer.people >= PEOPLE) {
                return false;
            }
            advance();
            if (!isNumber(0, LAST_SPOT)) {
                return false;
            }
            int spot = value;
            int quick = 1;
            advance();
            if (isWord("quick")) {
                advance();
                if (!isNumber(1, QUICKEST)) {
                    return false;
                }
                quick = value;
                advance();
            }
            foyer.admit(kind, spot, quick);
            return true;
        }

        private boolean isNumber(int least, int most) {
            return token == NUMBER && value >= least && value <= most;
        }

        private boolean isWord(String word) {
            if (token != WORD || next - start != word.length()) {
                return false;
            }
            for (int i = 0; i < word.length(); i++) {
                if (bytes[start + i] != word.charAt(i)) {
                    return false;
                }
            }
            return true;
        }

        /** Looks at the next token; at the end it starts behind the last byte. */
        private void advance() {
            int i = next;
            while (i < length && bytes[i] == ' ') {
                i++;
            }
            start = i;
            value = 0;
            if (i >= length) {
                token = END;
            } else if (isLetter(bytes[i])) {
                token = WORD;
                while (i < length && isLetter(bytes[i])) {
                    i++;
                }
            } else if (isDigit(bytes[i])) {
                token = NUMBER;
                while (i < length && isDigit(bytes[i])) {
                    // Held above all that may be, so that many digits can't wrap around.
                    value = Math.min(1000, 10 * value + bytes[i] - '0');
                    i++;
                }
            } else {
                token = bytes[i] == ';' ? SIGN : NO_TOKEN;
                i++;
            }
            next = i;
        }

        private static boolean isLetter(int b) {
            return b >= 'a' && b <= 'z';
        }

        private static boolean isDigit(int b) {
            return b >= '0' && b <= '9';
        }
    }
}
