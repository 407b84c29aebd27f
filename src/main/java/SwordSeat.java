/** A seat under a sword that hangs on a few horsehairs. The document's promises say what each call answers. */
public final class SwordSeat {
    public static final int BAD = -1, STATE = -2, FULL = -3, NONE = -4;

    private static final int MOST_HAIRS = 3;
    private static final int MOST_KINGS = 4;
    private static final int MOST_LAWS = 3;
    private static final int MOST_SEEN = 6;
    private static final int MOST_BYTES = 160;
    private static final int MOST_CELLS = 40;
    private static final int IMAGES = 2;
    private static final int SHEETS = 4;
    private static final int LANES = 3;

    private static final int KINDS = 5;
    private static final int OLDEST = 9;
    private static final int MOST_WORTH = 9;
    private static final int DEAREST = 99;
    private static final int MOST_LOAD = 9;
    private static final int LAST_HOUR = 99;
    private static final int FORESEEN = 5;
    private static final int LONGEST_READ = 20;
    private static final int LONGEST_DRIFT = 60;

    /** HAIRS are bits; so many sets of them there can be. */
    private static final int SETS = 1 << MOST_HAIRS;

    private static final int NO_FAULT = 0;
    private static final int NULL_FAULT = 1;
    private static final int INDEX_FAULT = 2;
    private static final int CAST_FAULT = 3;
    private static final int SIZE_FAULT = 4;

    private final Realm now = new Realm();
    /** What a sheet or a seed does is tried here first: what is refused must change nothing. */
    private final Realm trial = new Realm();
    private final Realm[] images = new Realm[IMAGES];
    private final boolean[] kept = new boolean[IMAGES];
    private final Reader reader = new Reader();
    private final Odds odds = new Odds();
    private final Seen seen = new Seen();
    private final Sheet[] sheets = new Sheet[SHEETS];
    private int torn = NO_FAULT;

    public SwordSeat() {
        for (int k = 0; k < images.length; k++) {
            images[k] = new Realm();
        }
        for (int k = 0; k < sheets.length; k++) {
            sheets[k] = new Sheet();
        }
    }

    // ---- the text, what there is

    public int feed(int c) {
        if (!within(c, 0, 127)) {
            return BAD;
        }
        return reader.tape.append(c) ? reader.tape.length : FULL;
    }

    public int end(int n) {
        if (!within(n, 0, reader.tape.length)) {
            return BAD;
        }
        int had = reader.tape.length;
        reader.tape.length = n;
        return had;
    }

    public int text() {
        int answer = reader.readAll();
        reader.tape.length = 0;
        if (reader.fault == NO_FAULT) {
            now.copy(reader.draft);
            seen.many = 0;
            for (int k = 0; k < kept.length; k++) {
                kept[k] = false;
            }
        }
        return answer;
    }

    public int fault() {
        return reader.fault;
    }

    public int rule(int what) {
        switch (what) {
            case 0: return now.hairs;
            case 1: return now.kings;
            case 2: return now.laws;
            case 3: return now.load;
            case 4: return now.prize;
            case 5: return now.hour;
            case 6: return now.whole;
            case 7: return now.whole == 0 ? 1 : 0;
            default: return BAD;
        }
    }

    public int hair(int i, int what) {
        if (!within(i, 0, now.hairs - 1)) {
            return BAD;
        }
        switch (what) {
            case 0: return now.kind[i];
            case 1: return now.age[i];
            case 2: return now.wholeBit(i);
            case 3: return now.breaks(i);
            default: return BAD;
        }
    }

    public int king(int k, int what) {
        if (!within(k, 0, now.kings - 1) || !within(what, 0, 1)) {
            return BAD;
        }
        return what == 0 ? now.worth[k] : now.life[k];
    }

    public int law(int l, int what) {
        if (!within(l, 0, now.laws - 1) || !within(what, 0, 1)) {
            return BAD;
        }
        return what == 0 ? now.lawHours[l] : now.lawWorth[l];
    }

    // ---- what is changed

    public int set(int what, int v) {
        if (what == 0 && within(v, 1, MOST_LOAD)) {
            int was = now.load;
            now.load = v;
            return was;
        }
        if (what == 1 && within(v, 0, DEAREST)) {
            int was = now.prize;
            now.prize = v;
            return was;
        }
        return BAD;
    }

    public int age(int i, int v) {
        if (!within(i, 0, now.hairs - 1) || !within(v, 0, OLDEST)) {
            return BAD;
        }
        int was = now.age[i];
        now.age[i] = v;
        return was;
    }

    public int dye(int i, int kind) {
        if (!within(i, 0, now.hairs - 1) || !within(kind, 0, KINDS - 1)) {
            return BAD;
        }
        int was = now.kind[i];
        now.kind[i] = kind;
        return was;
    }

    public int knot(int i, boolean is) {
        if (!within(i, 0, now.hairs - 1)) {
            return BAD;
        }
        int was = now.wholeBit(i);
        if (is) {
            now.whole |= 1 << i;
            now.age[i] = 0;
        } else {
            now.whole &= ~(1 << i);
        }
        return was;
    }

    public int pay(int k, int what, int v) {
        if (!within(k, 0, now.kings - 1)) {
            return BAD;
        }
        if (what == 0 && within(v, 0, MOST_WORTH)) {
            int was = now.worth[k];
            now.worth[k] = v;
            return was;
        }
        if (what == 1 && within(v, 0, DEAREST)) {
            int was = now.life[k];
            now.life[k] = v;
            return was;
        }
        return BAD;
    }

    public int hour(int breaks) {
        return now.tryHour(breaks);
    }

    // ---- by odds

    public long falls(int n, int what) {
        if (!foreseen(n) || !within(what, 0, 1)) {
            return BAD;
        }
        long all = thousands(n);
        return part(all - heldFromNow(n), all, what);
    }

    public long left(int n, int k, int what) {
        if (!foreseen(n) || !within(k, 0, MOST_HAIRS) || !within(what, 0, 1)) {
            return BAD;
        }
        odds.take(now);
        odds.passHours(n);
        return part(odds.justWhole(k), thousands(n), what);
    }

    public long mean(int n, int what) {
        if (!foreseen(n) || !within(what, 0, 1)) {
            return BAD;
        }
        odds.take(now);
        odds.passHours(n);
        long sum = 0;
        for (int k = 1; k <= MOST_HAIRS; k++) {
            sum += k * odds.justWhole(k);
        }
        return part(sum, thousands(n), what);
    }

    public long sits(int k, int n, int what) {
        if (!within(k, 0, now.kings - 1) || !foreseen(n) || !within(what, 0, 1)) {
            return BAD;
        }
        odds.take(now);
        return part(odds.sitting(now.worth[k], now.life[k], n, false), thousands(n), what);
    }

    public long best(int k, int n, int what) {
        if (!within(k, 0, now.kings - 1) || !foreseen(n) || !within(what, 0, 2)) {
            return BAD;
        }
        long gain = seeingGain(k, n);
        if (what == 2) {
            return gain > 0 ? 1 : 0;
        }
        return part(gain, thousands(n), what);
    }

    public long test(int v, int n, int what) {
        if (!within(v, 1, MOST_LOAD) || !within(n, 0, FORESEEN - 1) || !within(what, 0, 1)) {
            return BAD;
        }
        odds.take(now);
        odds.load = v;
        odds.passHour(0);
        odds.load = now.load;
        for (int t = 1; t <= n; t++) {
            odds.passHour(t);
        }
        return part(odds.held(), thousands(n + 1), what);
    }

    // ---- what is to be done

    public int plait(int kind, int n, int k) {
        if (!within(kind, 0, KINDS - 1) || !foreseen(n) || !within(k, 1, 10)) {
            return BAD;
        }
        for (int m = 1; m <= MOST_HAIRS; m++) {
            odds.takeNew(kind, m, now.load);
            odds.passHours(n);
            if (odds.holdsBy(k, n)) {
                return m;
            }
        }
        return NONE;
    }

    public int bears(int n, int k) {
        if (!foreseen(n) || !within(k, 1, 10)) {
            return BAD;
        }
        for (int v = MOST_LOAD; v >= 1; v--) {
            odds.take(now);
            odds.load = v;
            odds.passHours(n);
            if (odds.holdsBy(k, n)) {
                return v;
            }
        }
        return NONE;
    }

    public long mend(int n, int what) {
        if (!foreseen(n) || !within(what, 0, 2)) {
            return BAD;
        }
        long most = heldFromNow(n);
        int which = NONE;
        for (int i = 0; i < now.hairs; i++) {
            odds.take(now);
            odds.renew(i);
            odds.passHours(n);
            long held = odds.held();
            if (held > most) {
                most = held;
                which = i;
            }
        }
        if (what == 0 || which == NONE) {
            return which;
        }
        return part(most, thousands(n), what - 1);
    }

    // ---- kings, laws

    public long duel(int a, int b, int n, int what) {
        if (!within(a, 0, now.kings - 1) || !within(b, 0, now.kings - 1) || a == b) {
            return BAD;
        }
        if (!foreseen(n) || !within(what, 0, 4)) {
            return BAD;
        }
        odds.take(now);
        odds.contest(now, a, b, n);
        if (what == 4) {
            return odds.firstGain > 0 ? 1 : 0;
        }
        return part(what < 2 ? odds.firstGain : odds.secondGain, thousands(n), what & 1);
    }

    public long crown(int n, int what) {
        if (!foreseen(n) || !within(what, 0, 2)) {
            return BAD;
        }
        if (now.kings == 0) {
            return STATE;
        }
        int which = 0;
        long most = seeingGain(0, n);
        for (int k = 1; k < now.kings; k++) {
            long gain = seeingGain(k, n);
            if (gain > most) {
                most = gain;
                which = k;
            }
        }
        return what == 0 ? which : part(most, thousands(n), what - 1);
    }

    public long reads(int set, int what) {
        if (!within(set, 0, (1 << now.laws) - 1) || !within(what, 0, 1)) {
            return BAD;
        }
        odds.take(now);
        odds.foresee();
        return part(worthOfLaws(set), thousands(FORESEEN), what);
    }

    public long laws(int what) {
        if (!within(what, 0, 2)) {
            return BAD;
        }
        odds.take(now);
        odds.foresee();
        int which = 0;
        long most = 0;
        for (int set = 1; set < 1 << now.laws; set++) {
            long worth = worthOfLaws(set);
            if (worth > most) {
                most = worth;
                which = set;
            }
        }
        return what == 0 ? which : part(most, thousands(FORESEEN), what - 1);
    }

    // ---- how many there had been

    public int see(int n, int k) {
        if (!foreseen(n) || !within(k, 0, MOST_HAIRS)) {
            return BAD;
        }
        return seen.append(n, k) ? seen.many : FULL;
    }

    public int forget(int n) {
        if (!within(n, 0, seen.many)) {
            return BAD;
        }
        int had = seen.many;
        seen.many = n;
        return had;
    }

    public long likely(int kind, int m, int what) {
        if (!within(kind, 0, KINDS - 1) || !within(m, 1, MOST_HAIRS) || !within(what, 0, 1)) {
            return BAD;
        }
        return part(likelihood(kind, m), thousands(seen.lastHour()), what);
    }

    public long guess(int what) {
        if (!within(what, 0, 2)) {
            return BAD;
        }
        int which = NONE;
        long most = 0;
        for (int kind = 0; kind < KINDS; kind++) {
            for (int m = 1; m <= MOST_HAIRS; m++) {
                long chance = likelihood(kind, m);
                if (chance > most) {
                    most = chance;
                    which = 10 * kind + m;
                }
            }
        }
        if (what == 0 || which == NONE) {
            return which;
        }
        return part(most, thousands(seen.lastHour()), what - 1);
    }

    // ---- by a seed

    public int drift(int seed, int n, int what) {
        if (!within(n, 1, LONGEST_DRIFT) || !within(what, 0, 1)) {
            return BAD;
        }
        trial.copy(now);
        int held = 0;
        int next = seed;
        for (int t = 0; t < n && trial.whole != 0; t++) {
            int broken = 0;
            for (int i = 0; i < trial.hairs; i++) {
                if (trial.wholeBit(i) == 1) {
                    next = next * 1103515245 + 12345;
                    broken |= (next >>> 16 & 0x7fff) % 10 < trial.breaks(i) ? 1 << i : 0;
                }
            }
            trial.passHour(broken);
            held += trial.whole != 0 ? 1 : 0;
        }
        return what == 0 ? held : trial.whole;
    }

    // ---- images, sheets

    public int keep(int k) {
        if (!within(k, 0, IMAGES - 1)) {
            return BAD;
        }
        int was = kept[k] ? 1 : 0;
        images[k].copy(now);
        kept[k] = true;
        return was;
    }

    public int back(int k) {
        if (!within(k, 0, IMAGES - 1)) {
            return BAD;
        }
        if (!kept[k]) {
            return STATE;
        }
        // An IMAGE has the LAWS too: only a text changes LAWS, and no IMAGE outlives a text.
        now.copy(images[k]);
        return now.hour;
    }

    public int sheet(int k, int lane, int n) {
        if (!within(k, 0, SHEETS - 1) || !within(lane, 0, LANES - 1) || n > MOST_CELLS) {
            return BAD;
        }
        if (n < 0) {
            return -10 - SIZE_FAULT;
        }
        sheets[k].renew(lane, n);
        return 1;
    }

    public int lay(int k, int i, int v) {
        if (!within(k, 0, SHEETS - 1)) {
            return BAD;
        }
        int fault = sheets[k].faultAt(i);
        if (fault != NO_FAULT) {
            return -10 - fault;
        }
        sheets[k].write(i, v);
        return 1;
    }

    public int read(int k, int lane, int f, int n) {
        if (!within(k, 0, SHEETS - 1) || !within(lane, 0, LANES - 1) || !within(n, 0, LONGEST_READ)) {
            return BAD;
        }
        Sheet sheet = sheets[k];
        trial.copy(now);
        int fault = NO_FAULT;
        int went = 0;
        for (int i = 0; i < n && fault == NO_FAULT; i++) {
            // The CELL at f was there before a later one is looked for, so f + i never wraps around.
            fault = sheet.faultAs(lane, f + i);
            if (fault == NO_FAULT) {
                if (trial.tryHour(sheet.cells[f + i]) < 0) {
                    return -20 - i;
                }
                went++;
            }
        }
        now.copy(trial);
        torn = fault;
        return went;
    }

    public int torn() {
        return torn;
    }

    public int count(int what) {
        switch (what) {
            case 0: return seen.many;
            case 1: return (kept[0] ? 1 : 0) + (kept[1] ? 1 : 0);
            case 2: return reader.tape.length;
            case 3: return sheets[0].lane == Sheet.NOTHING ? NONE : sheets[0].length;
            case 4: return Integer.bitCount(now.whole);
            case 5: return now.allAges();
            default: return BAD;
        }
    }

    // ---- what the calls share

    private static boolean within(int v, int least, int most) {
        return v >= least && v <= most;
    }

    private static boolean foreseen(int n) {
        return within(n, 0, FORESEEN);
    }

    /** Odds of n HOURS are kept as whole numbers of so many: each HOUR has 10 by 10 by 10 shares. */
    private static long thousands(int n) {
        long all = 1;
        for (int i = 0; i < n; i++) {
            all *= 1000;
        }
        return all;
    }

    /** The numerator (which 0) or the denominator (1) in lowest terms. */
    private static long part(long top, long bottom, int which) {
        long shared = common(Math.abs(top), bottom);
        if (shared <= 0) {
            return which;
        }
        return which == 0 ? top / shared : bottom / shared;
    }

    /** The greatest common divisor; two longs need fewer than a hundred steps. */
    private static long common(long a, long b) {
        long x = a;
        long y = b;
        for (int i = 0; i < 200 && y != 0; i++) {
            long rest = x % y;
            x = y;
            y = rest;
        }
        return x;
    }

    private static int breaksOf(int kind, int age, int load, int wholeHairs) {
        if (wholeHairs <= 0) {
            return 0;
        }
        int strain = (load + wholeHairs - 1) / wholeHairs;
        return Math.max(0, Math.min(10, baseOf(kind, age) + strain - 1));
    }

    private static int baseOf(int kind, int age) {
        int plain = age / 2;
        switch (kind) {
            case 1: return plain + 1;
            case 2: return plain + 2;
            case 3: return plain / 2;
            case 4: return plain / 2 - 1;
            default: return plain;
        }
    }

    private long heldFromNow(int n) {
        odds.take(now);
        odds.passHours(n);
        return odds.held();
    }

    private long seeingGain(int k, int n) {
        odds.take(now);
        return odds.sitting(now.worth[k], now.life[k], n, true);
    }

    /** Of thousands(FORESEEN), once odds has foreseen how likely it holds. */
    private long worthOfLaws(int set) {
        long sum = 0;
        int hours = 0;
        for (int l = 0; l < now.laws; l++) {
            if ((set >> l & 1) == 1) {
                hours += now.lawHours[l];
                sum += hours <= FORESEEN ? now.lawWorth[l] * odds.heldBehind[hours] : 0;
            }
        }
        return sum;
    }

    /** Of thousands(seen.lastHour()): that m new HAIRS would have been as SEEN. */
    private long likelihood(int kind, int m) {
        odds.takeNew(kind, m, now.load);
        int last = seen.lastHour();
        for (int t = 0; t <= last; t++) {
            for (int j = 0; j < seen.many; j++) {
                if (seen.hours[j] == t) {
                    odds.keepOnly(seen.whole[j]);
                }
            }
            if (t < last) {
                odds.passHour(t);
            }
        }
        return odds.all();
    }

    /** HAIRS, KINGS, LAWS and the numbers beside them. */
    private static final class Realm {
        private final int[] kind = new int[MOST_HAIRS];
        private final int[] age = new int[MOST_HAIRS];
        private final int[] worth = new int[MOST_KINGS];
        private final int[] life = new int[MOST_KINGS];
        private final int[] lawHours = new int[MOST_LAWS];
        private final int[] lawWorth = new int[MOST_LAWS];
        private int hairs;
        private int kings;
        private int laws;
        private int whole;
        private int load;
        private int prize;
        private int hour;

        private Realm() {
            clear();
        }

        private void clear() {
            hairs = 0;
            kings = 0;
            laws = 0;
            whole = 0;
            load = 3;
            prize = 9;
            hour = 0;
        }

        private void copy(Realm other) {
            copyRow(other.kind, kind);
            copyRow(other.age, age);
            copyRow(other.worth, worth);
            copyRow(other.life, life);
            copyRow(other.lawHours, lawHours);
            copyRow(other.lawWorth, lawWorth);
            hairs = other.hairs;
            kings = other.kings;
            laws = other.laws;
            whole = other.whole;
            load = other.load;
            prize = other.prize;
            hour = other.hour;
        }

        private static void copyRow(int[] from, int[] to) {
            for (int i = 0; i < from.length && i < to.length; i++) {
                to[i] = from[i];
            }
        }

        private boolean addHair(int newKind, int newAge) {
            if (hairs >= MOST_HAIRS) {
                return false;
            }
            kind[hairs] = newKind;
            age[hairs] = newAge;
            whole |= 1 << hairs;
            hairs++;
            return true;
        }

        private boolean addKing(int newWorth, int newLife) {
            if (kings >= MOST_KINGS) {
                return false;
            }
            worth[kings] = newWorth;
            life[kings] = newLife;
            kings++;
            return true;
        }

        private boolean addLaw(int newHours, int newWorth) {
            if (laws >= MOST_LAWS) {
                return false;
            }
            lawHours[laws] = newHours;
            lawWorth[laws] = newWorth;
            laws++;
            return true;
        }

        private int wholeBit(int i) {
            return whole >> i & 1;
        }

        /** BREAKS of a HAIR that there is; 0, if it is broken. */
        private int breaks(int i) {
            if (wholeBit(i) == 0) {
                return 0;
            }
            return breaksOf(kind[i], age[i], load, Integer.bitCount(whole));
        }

        /** As hour() answers. */
        private int tryHour(int broken) {
            if (broken < 0 || (broken & ~whole) != 0) {
                return BAD;
            }
            if (whole == 0) {
                return STATE;
            }
            if (hour >= LAST_HOUR) {
                return FULL;
            }
            passHour(broken);
            return Integer.bitCount(whole);
        }

        private void passHour(int broken) {
            whole &= ~broken;
            for (int i = 0; i < hairs; i++) {
                age[i] = Math.min(OLDEST, age[i] + 1);
            }
            hour++;
        }

        private int allAges() {
            int sum = 0;
            for (int i = 0; i < hairs; i++) {
                sum += age[i];
            }
            return sum;
        }
    }

    private static final class Tape {
        private final byte[] bytes = new byte[MOST_BYTES];
        private int length = 0;

        private boolean append(int c) {
            if (length >= bytes.length) {
                return false;
            }
            bytes[length] = (byte) c;
            length++;
            return true;
        }

        /** The byte at a place, or -1 where there is none. */
        private int byteAt(int place) {
            return place >= 0 && place < length && place < bytes.length ? bytes[place] : -1;
        }
    }

    /** Reads THE TAPE into a draft, TOKEN by TOKEN, up to the first FAULT. */
    private static final class Reader {
        private static final int END = 0;
        private static final int NAME = 1;
        private static final int NUMBER = 2;
        private static final int STOP = 3;
        private static final int NO_TOKEN = 4;

        private final Tape tape = new Tape();
        private final Realm draft = new Realm();
        private int sort;
        private int from;
        private int to;
        private int value;
        private int broken;
        private boolean loadTold;
        private boolean prizeTold;
        private int fault = NO_FAULT;
        private int place;

        /** As text() answers. */
        private int readAll() {
            draft.clear();
            to = 0;
            broken = 0;
            loadTold = false;
            prizeTold = false;
            fault = NO_FAULT;
            int lines = 0;
            // A line has a byte at least, so this bound is never met.
            for (int i = 0; i <= MOST_BYTES && nextToken() && sort != END && readLine(); i++) {
                lines++;
            }
            if (fault == NO_FAULT && broken >> draft.hairs != 0) {
                fail(6, tape.length);
            }
            draft.whole &= ~broken;
            return fault == NO_FAULT ? lines : -10 - place;
        }

        private boolean readLine() {
            if (spells("hair")) {
                return readHair() && readStop();
            }
            if (spells("king")) {
                return readKing() && readStop();
            }
            if (spells("law")) {
                return readLaw() && readStop();
            }
            if (spells("load")) {
                return readLoad() && readStop();
            }
            if (spells("prize")) {
                return readPrize() && readStop();
            }
            if (spells("broken")) {
                return readBroken() && readStop();
            }
            return fail(2, from);
        }

        private boolean readHair() {
            if (draft.hairs >= MOST_HAIRS) {
                return fail(5, from);
            }
            if (!nextToken()) {
                return false;
            }
            int kind = spelledKind();
            if (kind < 0) {
                return fail(2, from);
            }
            return readNumber(0, OLDEST) && draft.addHair(kind, value);
        }

        private boolean readKing() {
            if (draft.kings >= MOST_KINGS) {
                return fail(5, from);
            }
            if (!readNumber(0, MOST_WORTH)) {
                return false;
            }
            int worth = value;
            return readNumber(0, DEAREST) && draft.addKing(worth, value);
        }

        private boolean readLaw() {
            if (draft.laws >= MOST_LAWS) {
                return fail(5, from);
            }
            if (!readNumber(1, FORESEEN)) {
                return false;
            }
            int hours = value;
            return readNumber(0, MOST_WORTH) && draft.addLaw(hours, value);
        }

        private boolean readLoad() {
            if (loadTold) {
                return fail(4, from);
            }
            loadTold = true;
            if (!readNumber(1, MOST_LOAD)) {
                return false;
            }
            draft.load = value;
            return true;
        }

        private boolean readPrize() {
            if (prizeTold) {
                return fail(4, from);
            }
            prizeTold = true;
            if (!readNumber(0, DEAREST)) {
                return false;
            }
            draft.prize = value;
            return true;
        }

        private boolean readBroken() {
            if (!readNumber(0, MOST_HAIRS - 1)) {
                return false;
            }
            if ((broken >> value & 1) == 1) {
                return fail(4, from);
            }
            broken |= 1 << value;
            return true;
        }

        private boolean readNumber(int least, int most) {
            if (!nextToken()) {
                return false;
            }
            if (sort != NUMBER) {
                return fail(2, from);
            }
            value = 0;
            for (int i = from; i < to; i++) {
                value = 10 * value + tape.byteAt(i) - '0';
            }
            return within(value, least, most) || fail(3, from);
        }

        private boolean readStop() {
            return nextToken() && (sort == STOP || fail(2, from));
        }

        private int spelledKind() {
            if (spells("plain")) {
                return 0;
            }
            if (spells("damp")) {
                return 1;
            }
            if (spells("dyed")) {
                return 2;
            }
            if (spells("doubled")) {
                return 3;
            }
            return spells("sung") ? 4 : -1;
        }

        private boolean spells(String name) {
            if (sort != NAME || to - from != name.length()) {
                return false;
            }
            for (int i = 0; i < name.length(); i++) {
                if (tape.byteAt(from + i) != name.charAt(i)) {
                    return false;
                }
            }
            return true;
        }

        /** Goes on by a TOKEN; false, if that is FAULT 1. */
        private boolean nextToken() {
            from = to;
            while (from < tape.length && tape.byteAt(from) == ' ') {
                from++;
            }
            to = from;
            sort = sortOf(tape.byteAt(from));
            if (sort == STOP) {
                to++;
            } else if (sort == NAME || sort == NUMBER) {
                while (to < tape.length && sortOf(tape.byteAt(to)) == sort) {
                    to++;
                }
            }
            boolean tooLong = sort == NUMBER && to - from > 2;
            return sort != NO_TOKEN && !tooLong || fail(1, from);
        }

        private static int sortOf(int c) {
            if (c < 0) {
                return END;
            }
            if (c >= 'a' && c <= 'z') {
                return NAME;
            }
            if (c >= '0' && c <= '9') {
                return NUMBER;
            }
            return c == ';' ? STOP : NO_TOKEN;
        }

        private boolean fail(int newFault, int newPlace) {
            fault = newFault;
            place = newPlace;
            return false;
        }
    }

    /** What becomes of HAIRS hour by hour: shares of thousands(n), by which HAIRS are WHOLE. */
    private static final class Odds {
        private final int[] kind = new int[MOST_HAIRS];
        private final int[] age = new int[MOST_HAIRS];
        private final int[] tenths = new int[MOST_HAIRS];
        private int whole;
        private int load;
        private final long[] shares = new long[SETS];
        private final long[] next = new long[SETS];
        private final long[] firstGains = new long[SETS];
        private final long[] secondGains = new long[SETS];
        /** Of thousands(FORESEEN): that it is not FALLEN behind so many HOURS. */
        private final long[] heldBehind = new long[FORESEEN + 1];
        private long firstGain;
        private long secondGain;

        private void take(Realm realm) {
            for (int i = 0; i < MOST_HAIRS; i++) {
                kind[i] = realm.kind[i];
                age[i] = realm.age[i];
            }
            load = realm.load;
            begin(realm.whole);
        }

        /** So many HAIRS of a KIND, all of AGE 0 and WHOLE. */
        private void takeNew(int newKind, int many, int newLoad) {
            for (int i = 0; i < MOST_HAIRS; i++) {
                kind[i] = newKind;
                age[i] = 0;
            }
            load = newLoad;
            begin((1 << many) - 1);
        }

        private void renew(int i) {
            if (within(i, 0, MOST_HAIRS - 1)) {
                age[i] = 0;
                begin(whole | 1 << i);
            }
        }

        private void begin(int newWhole) {
            whole = newWhole & (SETS - 1);
            for (int s = 0; s < SETS; s++) {
                shares[s] = s == whole ? 1 : 0;
            }
        }

        private void passHours(int n) {
            for (int t = 0; t < n; t++) {
                passHour(t);
            }
        }

        /** Behind t HOURS one more goes. */
        private void passHour(int t) {
            for (int s = 0; s < SETS; s++) {
                next[s] = 0;
            }
            for (int s = 0; s < SETS; s++) {
                if (shares[s] != 0) {
                    weigh(s, t);
                    for (int r = 0; r <= s; r++) {
                        next[r] += shares[s] * weight(s, r);
                    }
                }
            }
            for (int s = 0; s < SETS; s++) {
                shares[s] = next[s];
            }
        }

        /** Behind t HOURS just s are WHOLE: what each of them BREAKS by. */
        private void weigh(int s, int t) {
            int many = Integer.bitCount(s);
            for (int i = 0; i < MOST_HAIRS; i++) {
                tenths[i] = breaksOf(kind[i], Math.min(OLDEST, age[i] + t), load, many);
            }
        }

        /** Of a thousand: that of s, as weighed, just r are WHOLE behind the HOUR. */
        private long weight(int s, int r) {
            if ((r & ~s) != 0) {
                return 0;
            }
            long product = 1;
            for (int i = 0; i < MOST_HAIRS; i++) {
                if ((s >> i & 1) == 0) {
                    product *= 10;
                } else {
                    product *= (r >> i & 1) == 0 ? tenths[i] : 10 - tenths[i];
                }
            }
            return product;
        }

        private long all() {
            return shares[0] + held();
        }

        private long held() {
            long sum = 0;
            for (int s = 1; s < SETS; s++) {
                sum += shares[s];
            }
            return sum;
        }

        private long justWhole(int k) {
            long sum = 0;
            for (int s = 0; s < SETS; s++) {
                sum += Integer.bitCount(s) == k ? shares[s] : 0;
            }
            return sum;
        }

        /** Drops all but what has k WHOLE. */
        private void keepOnly(int k) {
            for (int s = 0; s < SETS; s++) {
                if (Integer.bitCount(s) != k) {
                    shares[s] = 0;
                }
            }
        }

        /** Whether it holds by k tenths or more, n HOURS having gone. */
        private boolean holdsBy(int k, int n) {
            return held() * 10 >= k * thousands(n);
        }

        private void foresee() {
            for (int t = 0; t <= FORESEEN; t++) {
                heldBehind[t] = held() * thousands(FORESEEN - t);
                if (t < FORESEEN) {
                    passHour(t);
                }
            }
        }

        /** Of thousands(n): the mean of what a KING has; one who sees leaves where it is not above 0. */
        private long sitting(int worth, int life, int n, boolean sees) {
            long[] gains = firstGains;
            clearGains(gains);
            for (int t = n - 1; t >= 0; t--) {
                long unit = thousands(n - 1 - t);
                // Downwards, as a set's row is asked for by the greater sets alone.
                for (int s = whole; s > 0; s--) {
                    weigh(s, t);
                    long sum = weight(s, 0) * -life * unit;
                    for (int r = 1; r <= s; r++) {
                        sum += weight(s, r) * (worth * unit + gains[r]);
                    }
                    gains[s] = sees && sum <= 0 ? 0 : sum;
                }
            }
            return gains[whole];
        }

        /** A DUEL: of thousands(n), firstGain and secondGain become what either has in the mean. */
        private void contest(Realm realm, int a, int b, int n) {
            clearGains(firstGains);
            clearGains(secondGains);
            for (int t = n - 1; t >= 0; t--) {
                boolean firsts = (t & 1) == 0;
                int sitter = firsts ? a : b;
                long[] his = firsts ? firstGains : secondGains;
                long[] others = firsts ? secondGains : firstGains;
                long unit = thousands(n - 1 - t);
                for (int s = whole; s > 0; s--) {
                    weigh(s, t);
                    duelHour(s, realm.worth[sitter] * unit, realm.life[sitter] * unit, realm.prize * unit, his, others);
                }
            }
            firstGain = firstGains[whole];
            secondGain = whole == 0 && n > 0 ? realm.prize * thousands(n) : secondGains[whole];
        }

        /** The set s, as weighed, ahead of an HOUR: the gains behind it become those from it on. */
        private void duelHour(int s, long worth, long life, long prize, long[] his, long[] others) {
            long sitting = -life * weight(s, 0);
            long waiting = prize * weight(s, 0);
            for (int r = 1; r <= s; r++) {
                long weight = weight(s, r);
                sitting += weight * (worth + his[r]);
                waiting += weight * others[r];
            }
            his[s] = Math.max(0, sitting);
            others[s] = sitting > 0 ? waiting : 1000 * prize;
        }

        private static void clearGains(long[] gains) {
            for (int s = 0; s < gains.length; s++) {
                gains[s] = 0;
            }
        }
    }

    /** What was SEEN: behind so many HOURS so many HAIRS were WHOLE. */
    private static final class Seen {
        private final int[] hours = new int[MOST_SEEN];
        private final int[] whole = new int[MOST_SEEN];
        private int many = 0;

        private boolean append(int n, int k) {
            if (many >= MOST_SEEN) {
                return false;
            }
            hours[many] = n;
            whole[many] = k;
            many++;
            return true;
        }

        private int lastHour() {
            int last = 0;
            for (int j = 0; j < many; j++) {
                last = Math.max(last, hours[j]);
            }
            return last;
        }
    }

    /** A row of CELLS as a lane holds them, or nothing. */
    private static final class Sheet {
        private static final int NOTHING = -1;
        private static final int BYTES = 0;
        private static final int SHORTS = 1;

        private final int[] cells = new int[MOST_CELLS];
        private int lane = NOTHING;
        private int length = 0;

        private void renew(int newLane, int n) {
            lane = newLane;
            length = Math.min(n, cells.length);
            for (int i = 0; i < cells.length; i++) {
                cells[i] = 0;
            }
        }

        /** The FAULT of touching a CELL. */
        private int faultAt(int i) {
            if (lane == NOTHING) {
                return NULL_FAULT;
            }
            return within(i, 0, length - 1) ? NO_FAULT : INDEX_FAULT;
        }

        /**
         * The FAULT of touching a CELL, the row being taken as of a lane: as in Java, nothing may be taken as of any.
         * It is asked for each HOUR, as a read() of no HOURS has none that could be refused.
         */
        private int faultAs(int asked, int i) {
            return lane == NOTHING || lane == asked ? faultAt(i) : CAST_FAULT;
        }

        private void write(int i, int v) {
            if (within(i, 0, length - 1)) {
                cells[i] = lane == BYTES ? (byte) v : lane == SHORTS ? (short) v : v;
            }
        }
    }
}
