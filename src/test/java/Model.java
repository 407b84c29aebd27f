import java.util.ArrayList;
import java.util.List;
import java.util.regex.Matcher;
import java.util.regex.Pattern;

/**
 * The document once more, written as far from SwordSeat's ways as may be: exact fractions, every course of
 * events by itself, no tables, and for sheets the rows and the exceptions of the Java machine.
 */
final class Model {
    static final int BAD = -1, STATE = -2, FULL = -3, NONE = -4;
    private static final List<String> KINDS = List.of("plain", "damp", "dyed", "doubled", "sung");

    record Hair(int kind, int age, boolean whole) {
        Hair older() {
            return new Hair(kind, Math.min(9, age + 1), whole);
        }

        Hair broken() {
            return new Hair(kind, age, false);
        }

        Hair renewed() {
            return new Hair(kind, 0, true);
        }
    }

    record Pair(int first, int second) { }

    record Image(List<Hair> hairs, int load, List<Pair> kings, int prize, int hour) { }

    /** One course of events: what was WHOLE behind 0, 1, .. HOURS, and how likely it is. */
    record Course(List<List<Hair>> hairs, Ratio odds) { }

    private static final class Refused extends RuntimeException {
        private static final long serialVersionUID = 1;
        final int fault;
        final int place;

        Refused(int fault, int place) {
            this.fault = fault;
            this.place = place;
        }
    }

    private List<Hair> hairs = List.of();
    private List<Pair> kings = List.of();
    private List<Pair> laws = List.of();
    private int load = 3;
    private int prize = 9;
    private int hour = 0;
    private String tape = "";
    private int fault = 0;
    private int torn = 0;
    private List<Pair> seen = List.of();
    private final Image[] images = new Image[2];
    private final Object[] sheets = new Object[4];

    // ---- the text

    int feed(int c) {
        if (c < 0 || c > 127) return BAD;
        if (tape.length() == 160) return FULL;
        tape += (char) c;
        return tape.length();
    }

    int end(int n) {
        if (n < 0 || n > tape.length()) return BAD;
        int had = tape.length();
        tape = tape.substring(0, n);
        return had;
    }

    private static final Pattern TOKEN = Pattern.compile(" *([a-z]+|[0-9]+|;|\\z|.)", Pattern.DOTALL);

    private Matcher tokens;

    private String token() {
        if (!tokens.find()) throw new IllegalStateException();
        String token = tokens.group(1);
        if (!token.matches("[a-z]+|[0-9]{1,2}|;|")) throw new Refused(1, tokens.start(1));
        return token;
    }

    private int number(int least, int most) {
        String token = token();
        if (!token.matches("[0-9]+")) throw new Refused(2, tokens.start(1));
        int v = Integer.parseInt(token);
        if (v < least || v > most) throw new Refused(3, tokens.start(1));
        return v;
    }

    private void roomFor(List<?> list, int most) {
        if (list.size() == most) throw new Refused(5, tokens.start(1));
    }

    int text() {
        String whole = tape;
        tape = "";
        tokens = TOKEN.matcher(whole);
        List<Hair> newHairs = new ArrayList<>();
        List<Pair> newKings = new ArrayList<>();
        List<Pair> newLaws = new ArrayList<>();
        List<Integer> cut = new ArrayList<>();
        Integer newLoad = null;
        Integer newPrize = null;
        int lines = 0;
        try {
            for (String name = token(); !name.isEmpty(); name = token(), lines++) {
                int place = tokens.start(1);
                switch (name) {
                    case "hair" -> {
                        roomFor(newHairs, 3);
                        int kind = KINDS.indexOf(token());
                        if (kind < 0) throw new Refused(2, tokens.start(1));
                        newHairs.add(new Hair(kind, number(0, 9), true));
                    }
                    case "king" -> {
                        roomFor(newKings, 4);
                        newKings.add(new Pair(number(0, 9), number(0, 99)));
                    }
                    case "law" -> {
                        roomFor(newLaws, 3);
                        newLaws.add(new Pair(number(1, 5), number(0, 9)));
                    }
                    case "load" -> {
                        if (newLoad != null) throw new Refused(4, place);
                        newLoad = number(1, 9);
                    }
                    case "prize" -> {
                        if (newPrize != null) throw new Refused(4, place);
                        newPrize = number(0, 99);
                    }
                    case "broken" -> {
                        int i = number(0, 2);
                        if (cut.contains(i)) throw new Refused(4, tokens.start(1));
                        cut.add(i);
                    }
                    default -> throw new Refused(2, place);
                }
                if (!token().equals(";")) throw new Refused(2, tokens.start(1));
            }
            for (int i : cut) {
                if (i >= newHairs.size()) throw new Refused(6, whole.length());
                newHairs.set(i, newHairs.get(i).broken());
            }
        } catch (Refused refused) {
            fault = refused.fault;
            return -10 - refused.place;
        }
        hairs = newHairs;
        kings = newKings;
        laws = newLaws;
        load = newLoad == null ? 3 : newLoad;
        prize = newPrize == null ? 9 : newPrize;
        hour = 0;
        seen = List.of();
        images[0] = null;
        images[1] = null;
        fault = 0;
        return lines;
    }

    int fault() {
        return fault;
    }

    int rule(int what) {
        int bits = 0;
        for (int i = 0; i < hairs.size(); i++) if (hairs.get(i).whole) bits += 1 << i;
        int[] answers = {hairs.size(), kings.size(), laws.size(), load, prize, hour, bits, bits == 0 ? 1 : 0};
        return what < 0 || what > 7 ? BAD : answers[what];
    }

    int hair(int i, int what) {
        if (not(hairs, i) || what < 0 || what > 3) return BAD;
        Hair h = hairs.get(i);
        return new int[] {h.kind, h.age, h.whole ? 1 : 0, breaks(h, hairs, load)}[what];
    }

    int king(int k, int what) {
        return not(kings, k) || what < 0 || what > 1 ? BAD : what == 0 ? kings.get(k).first : kings.get(k).second;
    }

    int law(int l, int what) {
        return not(laws, l) || what < 0 || what > 1 ? BAD : what == 0 ? laws.get(l).first : laws.get(l).second;
    }

    private static boolean not(List<?> list, int i) {
        return i < 0 || i >= list.size();
    }

    // ---- what is changed

    int set(int what, int v) {
        if (what == 0 && v >= 1 && v <= 9) {
            int was = load;
            load = v;
            return was;
        }
        if (what == 1 && v >= 0 && v <= 99) {
            int was = prize;
            prize = v;
            return was;
        }
        return BAD;
    }

    private static List<Hair> with(List<Hair> list, int i, Hair hair) {
        List<Hair> copy = new ArrayList<>(list);
        copy.set(i, hair);
        return copy;
    }

    int age(int i, int v) {
        if (not(hairs, i) || v < 0 || v > 9) return BAD;
        Hair h = hairs.get(i);
        hairs = with(hairs, i, new Hair(h.kind, v, h.whole));
        return h.age;
    }

    int dye(int i, int kind) {
        if (not(hairs, i) || kind < 0 || kind > 4) return BAD;
        Hair h = hairs.get(i);
        hairs = with(hairs, i, new Hair(kind, h.age, h.whole));
        return h.kind;
    }

    int knot(int i, boolean is) {
        if (not(hairs, i)) return BAD;
        Hair h = hairs.get(i);
        hairs = with(hairs, i, is ? h.renewed() : h.broken());
        return h.whole ? 1 : 0;
    }

    int pay(int k, int what, int v) {
        if (not(kings, k) || what < 0 || what > 1 || v < 0 || v > (what == 0 ? 9 : 99)) return BAD;
        Pair was = kings.get(k);
        kings = new ArrayList<>(kings);
        kings.set(k, what == 0 ? new Pair(v, was.second) : new Pair(was.first, v));
        return what == 0 ? was.first : was.second;
    }

    int hour(int breaks) {
        if (breaks < 0 || (breaks | rule(6)) != rule(6)) return BAD;
        if (fallen(hairs)) return STATE;
        if (hour == 99) return FULL;
        hairs = after(hairs, breaks);
        hour++;
        return wholeOf(hairs);
    }

    private static List<Hair> after(List<Hair> list, int breaks) {
        List<Hair> next = new ArrayList<>();
        for (int i = 0; i < list.size(); i++) {
            Hair h = list.get(i).older();
            next.add((breaks >> i & 1) == 1 ? h.broken() : h);
        }
        return next;
    }

    private static int wholeOf(List<Hair> list) {
        int n = 0;
        for (Hair h : list) n += h.whole ? 1 : 0;
        return n;
    }

    private static boolean fallen(List<Hair> list) {
        return wholeOf(list) == 0;
    }

    static int breaks(Hair h, List<Hair> all, int load) {
        if (!h.whole) return 0;
        double half = Math.floor(h.age / 2.0);
        double doubled = Math.floor(half / 2.0);
        double base = new double[] {half, half + 1, half + 2, doubled, doubled - 1}[h.kind];
        double strain = Math.ceil(load / (double) wholeOf(all));
        return (int) Math.max(0, Math.min(10, base + strain - 1));
    }

    // ---- by odds

    /** That in the next HOUR just these break, of all ways (bits over all HAIRS). */
    private static Ratio oddsOf(List<Hair> list, int breaks, int load) {
        Ratio odds = Ratio.ONE;
        for (int i = 0; i < list.size(); i++) {
            int b = breaks(list.get(i), list, load);
            odds = odds.times(Ratio.of((breaks >> i & 1) == 1 ? b : 10 - b, 10));
        }
        return odds;
    }

    private static void courses(List<List<Hair>> past, Ratio odds, int[] loads, List<Course> all) {
        int t = past.size() - 1;
        if (t == loads.length) {
            all.add(new Course(List.copyOf(past), odds));
            return;
        }
        List<Hair> last = past.get(t);
        for (int breaks = 0; breaks < 1 << last.size(); breaks++) {
            Ratio step = oddsOf(last, breaks, loads[t]);
            if (step.compareTo(Ratio.ZERO) > 0) {
                past.add(after(last, breaks));
                courses(past, odds.times(step), loads, all);
                past.remove(t + 1);
            }
        }
    }

    private static List<Course> coursesOf(List<Hair> from, int[] loads) {
        List<Course> all = new ArrayList<>();
        List<List<Hair>> past = new ArrayList<>();
        past.add(from);
        courses(past, Ratio.ONE, loads, all);
        return all;
    }

    private static int[] loads(int n, int load) {
        int[] row = new int[n];
        java.util.Arrays.fill(row, load);
        return row;
    }

    private static Ratio holds(List<Hair> from, int[] loads) {
        Ratio sum = Ratio.ZERO;
        for (Course c : coursesOf(from, loads)) if (!fallen(c.hairs.get(loads.length))) sum = sum.plus(c.odds);
        return sum;
    }

    private Ratio holds(int n) {
        return holds(hairs, loads(n, load));
    }

    private static boolean badHours(int n) {
        return n < 0 || n > 5;
    }

    private static boolean badPart(int what) {
        return what < 0 || what > 1;
    }

    long falls(int n, int what) {
        if (badHours(n) || badPart(what)) return BAD;
        return Ratio.ONE.plus(holds(n).times(-1)).part(what);
    }

    long left(int n, int k, int what) {
        if (badHours(n) || badPart(what) || k < 0 || k > 3) return BAD;
        Ratio sum = Ratio.ZERO;
        for (Course c : coursesOf(hairs, loads(n, load))) if (wholeOf(c.hairs.get(n)) == k) sum = sum.plus(c.odds);
        return sum.part(what);
    }

    long mean(int n, int what) {
        if (badHours(n) || badPart(what)) return BAD;
        Ratio sum = Ratio.ZERO;
        for (Course c : coursesOf(hairs, loads(n, load))) sum = sum.plus(c.odds.times(wholeOf(c.hairs.get(n))));
        return sum.part(what);
    }

    long sits(int k, int n, int what) {
        if (not(kings, k) || badHours(n) || badPart(what)) return BAD;
        Ratio sum = Ratio.ZERO;
        for (Course c : coursesOf(hairs, loads(n, load))) {
            long has = 0;
            for (int t = 0; t < n && !fallen(c.hairs.get(t)); t++) {
                has += fallen(c.hairs.get(t + 1)) ? -kings.get(k).second : kings.get(k).first;
            }
            sum = sum.plus(c.odds.times(has));
        }
        return sum.part(what);
    }

    /** What a KING who sees has in n HOURS from such HAIRS on. */
    private Ratio seeing(List<Hair> from, Pair king, int n) {
        if (n == 0 || fallen(from)) return Ratio.ZERO;
        Ratio sum = Ratio.ZERO;
        for (int breaks = 0; breaks < 1 << from.size(); breaks++) {
            Ratio step = oddsOf(from, breaks, load);
            if (step.compareTo(Ratio.ZERO) == 0) continue;
            List<Hair> then = after(from, breaks);
            Ratio has = fallen(then) ? Ratio.of(-king.second, 1)
                : Ratio.of(king.first, 1).plus(seeing(then, king, n - 1));
            sum = sum.plus(step.times(has));
        }
        return sum.compareTo(Ratio.ZERO) > 0 ? sum : Ratio.ZERO;
    }

    long best(int k, int n, int what) {
        if (not(kings, k) || badHours(n) || what < 0 || what > 2) return BAD;
        Ratio has = seeing(hairs, kings.get(k), n);
        return what == 2 ? has.compareTo(Ratio.ZERO) : has.part(what);
    }

    long test(int v, int n, int what) {
        if (v < 1 || v > 9 || n < 0 || n > 4 || badPart(what)) return BAD;
        int[] loads = loads(n + 1, load);
        loads[0] = v;
        return holds(hairs, loads).part(what);
    }

    // ---- what is to be done

    private static List<Hair> fresh(int kind, int m) {
        List<Hair> list = new ArrayList<>();
        for (int i = 0; i < m; i++) list.add(new Hair(kind, 0, true));
        return list;
    }

    int plait(int kind, int n, int k) {
        if (kind < 0 || kind > 4 || badHours(n) || k < 1 || k > 10) return BAD;
        for (int m = 1; m <= 3; m++) {
            if (holds(fresh(kind, m), loads(n, load)).compareTo(Ratio.of(k, 10)) >= 0) return m;
        }
        return NONE;
    }

    int bears(int n, int k) {
        if (badHours(n) || k < 1 || k > 10) return BAD;
        int found = NONE;
        for (int v = 1; v <= 9; v++) if (holds(hairs, loads(n, v)).compareTo(Ratio.of(k, 10)) >= 0) found = v;
        return found;
    }

    long mend(int n, int what) {
        if (badHours(n) || what < 0 || what > 2) return BAD;
        int which = NONE;
        Ratio most = holds(n);
        for (int i = 0; i < hairs.size(); i++) {
            Ratio then = holds(with(hairs, i, hairs.get(i).renewed()), loads(n, load));
            if (then.compareTo(most) > 0) {
                most = then;
                which = i;
            }
        }
        return which == NONE || what == 0 ? which : most.part(what - 1);
    }

    // ---- kings, laws

    /** What he who sits next and the other one have from such HAIRS on. */
    private Ratio[] duelFrom(List<Hair> from, Pair his, Pair others, int n) {
        if (n == 0) return new Ratio[] {Ratio.ZERO, Ratio.ZERO};
        Ratio[] leaves = {Ratio.ZERO, Ratio.of(prize, 1)};
        if (fallen(from)) return leaves;
        Ratio his1 = Ratio.ZERO;
        Ratio other1 = Ratio.ZERO;
        for (int breaks = 0; breaks < 1 << from.size(); breaks++) {
            Ratio step = oddsOf(from, breaks, load);
            if (step.compareTo(Ratio.ZERO) == 0) continue;
            List<Hair> then = after(from, breaks);
            if (fallen(then)) {
                his1 = his1.plus(step.times(-his.second));
                other1 = other1.plus(step.times(prize));
            } else {
                Ratio[] on = duelFrom(then, others, his, n - 1);
                his1 = his1.plus(step.times(Ratio.of(his.first, 1).plus(on[1])));
                other1 = other1.plus(step.times(on[0]));
            }
        }
        return his1.compareTo(Ratio.ZERO) > 0 ? new Ratio[] {his1, other1} : leaves;
    }

    long duel(int a, int b, int n, int what) {
        if (not(kings, a) || not(kings, b) || a == b || badHours(n) || what < 0 || what > 4) return BAD;
        Ratio[] has = duelFrom(hairs, kings.get(a), kings.get(b), n);
        return what == 4 ? has[0].compareTo(Ratio.ZERO) : has[what / 2].part(what % 2);
    }

    long crown(int n, int what) {
        if (badHours(n) || what < 0 || what > 2) return BAD;
        if (kings.isEmpty()) return STATE;
        int which = -1;
        Ratio most = null;
        for (int k = 0; k < kings.size(); k++) {
            Ratio has = seeing(hairs, kings.get(k), n);
            if (most == null || has.compareTo(most) > 0) {
                most = has;
                which = k;
            }
        }
        return what == 0 ? which : most.part(what - 1);
    }

    private Ratio readsOf(int set) {
        Ratio sum = Ratio.ZERO;
        int last = 0;
        for (int l = 0; l < laws.size(); l++) {
            if ((set >> l & 1) == 0) continue;
            last += laws.get(l).first;
            if (last <= 5) sum = sum.plus(holds(last).times(laws.get(l).second));
        }
        return sum;
    }

    long reads(int set, int what) {
        if (set < 0 || set >= 1 << laws.size() || badPart(what)) return BAD;
        return readsOf(set).part(what);
    }

    long laws(int what) {
        if (what < 0 || what > 2) return BAD;
        int which = 0;
        Ratio most = Ratio.ZERO;
        for (int set = 0; set < 1 << laws.size(); set++) {
            Ratio has = readsOf(set);
            if (has.compareTo(most) > 0) {
                most = has;
                which = set;
            }
        }
        return what == 0 ? which : most.part(what - 1);
    }

    // ---- how many there had been

    int see(int n, int k) {
        if (badHours(n) || k < 0 || k > 3) return BAD;
        if (seen.size() == 6) return FULL;
        seen = new ArrayList<>(seen);
        seen.add(new Pair(n, k));
        return seen.size();
    }

    int forget(int n) {
        if (n < 0 || n > seen.size()) return BAD;
        int had = seen.size();
        seen = seen.subList(0, n);
        return had;
    }

    private Ratio likelihood(int kind, int m) {
        int last = 0;
        for (Pair p : seen) last = Math.max(last, p.first);
        Ratio sum = Ratio.ZERO;
        for (Course c : coursesOf(fresh(kind, m), loads(last, load))) {
            boolean fits = true;
            for (Pair p : seen) fits &= wholeOf(c.hairs.get(p.first)) == p.second;
            if (fits) sum = sum.plus(c.odds);
        }
        return sum;
    }

    long likely(int kind, int m, int what) {
        if (kind < 0 || kind > 4 || m < 1 || m > 3 || badPart(what)) return BAD;
        return likelihood(kind, m).part(what);
    }

    long guess(int what) {
        if (what < 0 || what > 2) return BAD;
        int which = NONE;
        Ratio most = Ratio.ZERO;
        for (int code = 1; code <= 43; code++) {
            if (code % 10 < 1 || code % 10 > 3) continue;
            Ratio odds = likelihood(code / 10, code % 10);
            if (odds.compareTo(most) > 0) {
                most = odds;
                which = code;
            }
        }
        return which == NONE || what == 0 ? which : most.part(what - 1);
    }

    // ---- by a seed

    int drift(int seed, int n, int what) {
        if (n < 1 || n > 60 || badPart(what)) return BAD;
        List<Hair> list = hairs;
        long x = seed & 0xffffffffL;
        int held = 0;
        for (int t = 0; t < n; t++) {
            int breaks = 0;
            for (int i = 0; i < list.size(); i++) {
                if (!list.get(i).whole) continue;
                x = (x * 1103515245L + 12345L) & 0xffffffffL;
                if (x / 65536 % 32768 % 10 < breaks(list.get(i), list, load)) breaks |= 1 << i;
            }
            list = after(list, breaks);
            if (!fallen(list)) held++;
        }
        if (what == 0) return held;
        int bits = 0;
        for (int i = 0; i < list.size(); i++) bits += list.get(i).whole ? 1 << i : 0;
        return bits;
    }

    // ---- images, sheets

    int keep(int k) {
        if (k < 0 || k > 1) return BAD;
        int was = images[k] == null ? 0 : 1;
        images[k] = new Image(hairs, load, kings, prize, hour);
        return was;
    }

    int back(int k) {
        if (k < 0 || k > 1) return BAD;
        if (images[k] == null) return STATE;
        hairs = images[k].hairs;
        load = images[k].load;
        kings = images[k].kings;
        prize = images[k].prize;
        hour = images[k].hour;
        return hour;
    }

    int sheet(int k, int lane, int n) {
        if (k < 0 || k > 3 || lane < 0 || lane > 2 || n > 40) return BAD;
        try {
            sheets[k] = lane == 0 ? new byte[n] : lane == 1 ? new short[n] : new int[n];
            return 1;
        } catch (NegativeArraySizeException e) {
            return -14;
        }
    }

    int lay(int k, int i, int v) {
        if (k < 0 || k > 3) return BAD;
        try {
            if (sheets[k] instanceof byte[] row) {
                row[i] = (byte) v;
            } else if (sheets[k] instanceof short[] row) {
                row[i] = (short) v;
            } else {
                ((int[]) sheets[k])[i] = v;
            }
            return 1;
        } catch (NullPointerException e) {
            return -11;
        } catch (ArrayIndexOutOfBoundsException e) {
            return -12;
        }
    }

    private static int cell(Object sheet, int lane, int i) {
        return lane == 0 ? ((byte[]) sheet)[i] : lane == 1 ? ((short[]) sheet)[i] : ((int[]) sheet)[i];
    }

    int read(int k, int lane, int f, int n) {
        if (k < 0 || k > 3 || lane < 0 || lane > 2 || n < 0 || n > 20) return BAD;
        List<Hair> wereHairs = hairs;
        int wasHour = hour;
        int went = 0;
        int found = 0;
        try {
            for (; went < n; went++) {
                int breaks = cell(sheets[k], lane, f + went);
                if (hour(breaks) < 0) {
                    hairs = wereHairs;
                    hour = wasHour;
                    return -20 - went;
                }
            }
        } catch (NullPointerException e) {
            found = 1;
        } catch (ArrayIndexOutOfBoundsException e) {
            found = 2;
        } catch (ClassCastException e) {
            found = 3;
        }
        torn = found;
        return went;
    }

    int torn() {
        return torn;
    }

    int count(int what) {
        switch (what) {
            case 0: return seen.size();
            case 1: return (images[0] == null ? 0 : 1) + (images[1] == null ? 0 : 1);
            case 2: return tape.length();
            case 3: return sheets[0] == null ? NONE : java.lang.reflect.Array.getLength(sheets[0]);
            case 4: return wholeOf(hairs);
            case 5: return hairs.stream().mapToInt(Hair::age).sum();
            default: return BAD;
        }
    }
}
