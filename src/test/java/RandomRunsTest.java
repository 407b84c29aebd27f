import java.util.Random;

/** Runs of calls by a fixed seed, each answer against the Model's. */
public final class RandomRunsTest {
    private static final int RUNS = 1500;
    private static final int CALLS = 512;
    private static final String[] KINDS = {"plain", "damp", "dyed", "doubled", "sung"};
    private static final int[] WILD = {Integer.MIN_VALUE, Integer.MIN_VALUE + 1, -1000, -2, -1, 0, 1, 2, 7, 8, 31, 32,
        33, 40, 41, 64, 100, 127, 128, 160, 161, 255, 256, 65535, 65536, Integer.MAX_VALUE - 1, Integer.MAX_VALUE};

    private final Check check;
    private final Random random;
    private final SwordSeat seat = new SwordSeat();
    private final Model model = new Model();
    private final int run;
    private int calls = 0;

    private RandomRunsTest(Check check, int run) {
        this.check = check;
        this.run = run;
        this.random = new Random(run);
    }

    public static void main(String[] args) {
        Check check = new Check();
        for (int run = 0; run < RUNS; run++) {
            new RandomRunsTest(check, run).go();
        }
        check.close();
    }

    private void go() {
        if (random.nextInt(20) != 0) {
            tell(line());
        }
        while (calls < CALLS) {
            if (random.nextInt(100) == 0) {
                tell(line());
            } else if (random.nextInt(100) == 0) {
                tell(spoilt(line()));
            } else {
                call(random.nextInt(38));
            }
        }
    }

    private void due(String call, long got, long want) {
        check.due("run " + run + " call " + calls + ": " + call, got, want);
        calls++;
    }

    /** Mostly in the bounds, now and then beside them, seldom anything. */
    private int pick(int least, int most) {
        int r = random.nextInt(200);
        if (r == 0) {
            return WILD[random.nextInt(WILD.length)];
        }
        if (r < 4) {
            return r < 2 ? least - 1 : most + 1;
        }
        return least + random.nextInt(most - least + 1);
    }

    private String line() {
        StringBuilder text = new StringBuilder();
        int hairs = random.nextInt(8) == 0 ? random.nextInt(4) : 3 - random.nextInt(2);
        for (int i = 0; i < hairs; i++) {
            text.append("hair ").append(KINDS[random.nextInt(5)]).append(' ').append(random.nextInt(10)).append(';');
        }
        for (int i = random.nextInt(5); i > 0; i--) {
            text.append("king ").append(random.nextInt(10)).append(' ').append(random.nextInt(100)).append(';');
        }
        for (int i = random.nextInt(4); i > 0; i--) {
            text.append("law ").append(1 + random.nextInt(5)).append(' ').append(random.nextInt(10)).append(" ;");
        }
        if (random.nextBoolean()) {
            text.append("  load ").append(1 + random.nextInt(9)).append(";");
        }
        if (random.nextBoolean()) {
            text.append("prize ").append(random.nextInt(100)).append(" ; ");
        }
        if (hairs > 1 && random.nextInt(4) == 0) {
            text.append("broken ").append(random.nextInt(hairs)).append(";");
        }
        return text.toString();
    }

    private String spoilt(String text) {
        StringBuilder spoilt = new StringBuilder(text);
        for (int i = 1 + random.nextInt(2); i > 0; i--) {
            int at = random.nextInt(spoilt.length() + 1);
            String[] bits = {"0", "9", ";", " ", "a", "A", "12", "123", "\t", "hair", "king 1 2;", "law 1 1;", "load 4;",
                "prize 5;", "broken 2;", "broken 0;", "hair sung 1;", "plain", "{", "\n"};
            if (random.nextBoolean() && at < spoilt.length()) {
                spoilt.deleteCharAt(at);
            } else {
                spoilt.insert(at, bits[random.nextInt(bits.length)]);
            }
        }
        return spoilt.toString();
    }

    private void tell(String text) {
        if (calls + text.length() + 6 > CALLS) {
            calls = CALLS;
            return;
        }
        due("end(0)", seat.end(0), model.end(0));
        for (int i = 0; i < text.length(); i++) {
            due("feed", seat.feed(text.charAt(i)), model.feed(text.charAt(i)));
        }
        due("count(2)", seat.count(2), model.count(2));
        due("text() of '" + text + "'", seat.text(), model.text());
        due("fault()", seat.fault(), model.fault());
    }

    private void call(int which) {
        int n = pick(0, 5);
        int part = pick(0, 1);
        int k = pick(0, 3);
        switch (which) {
            case 0 -> { int c = pick(0, 127); due("feed(" + c + ")", seat.feed(c), model.feed(c)); }
            case 1 -> { int c = pick(0, 40); due("end(" + c + ")", seat.end(c), model.end(c)); }
            case 2 -> { if (random.nextInt(40) == 0) { due("text()", seat.text(), model.text()); } }
            case 3 -> { int w = pick(0, 7); due("rule(" + w + ")", seat.rule(w), model.rule(w)); }
            case 4 -> { int i = pick(0, 2); due("hair(" + i + "," + k + ")", seat.hair(i, k), model.hair(i, k)); }
            case 5 -> due("king(" + k + "," + part + ")", seat.king(k, part), model.king(k, part));
            case 6 -> { int l = pick(0, 2); due("law(" + l + "," + part + ")", seat.law(l, part), model.law(l, part)); }
            case 7 -> { int v = part == 0 ? pick(1, 9) : pick(0, 99);
                due("set(" + part + "," + v + ")", seat.set(part, v), model.set(part, v)); }
            case 8 -> { int i = pick(0, 2); int v = pick(0, 9);
                due("age(" + i + "," + v + ")", seat.age(i, v), model.age(i, v)); }
            case 9 -> { int i = pick(0, 2); int v = pick(0, 4);
                due("dye(" + i + "," + v + ")", seat.dye(i, v), model.dye(i, v)); }
            case 10 -> { int i = pick(0, 2); boolean is = random.nextInt(3) != 0;
                due("knot(" + i + "," + is + ")", seat.knot(i, is), model.knot(i, is)); }
            case 11 -> { int v = part == 0 ? pick(0, 9) : pick(0, 99);
                due("pay(" + k + "," + part + "," + v + ")", seat.pay(k, part, v), model.pay(k, part, v)); }
            case 12 -> hours();
            case 13 -> due("falls(" + n + "," + part + ")", seat.falls(n, part), model.falls(n, part));
            case 14 -> due("left(" + n + "," + k + "," + part + ")", seat.left(n, k, part), model.left(n, k, part));
            case 15 -> due("mean(" + n + "," + part + ")", seat.mean(n, part), model.mean(n, part));
            case 16 -> due("sits(" + k + "," + n + "," + part + ")", seat.sits(k, n, part), model.sits(k, n, part));
            case 17 -> { int w = pick(0, 2);
                due("best(" + k + "," + n + "," + w + ")", seat.best(k, n, w), model.best(k, n, w)); }
            case 18 -> { int v = pick(1, 9); int h = pick(0, 4);
                due("test(" + v + "," + h + "," + part + ")", seat.test(v, h, part), model.test(v, h, part)); }
            case 19 -> { int kind = pick(0, 4); int tenths = pick(1, 10);
                due("plait(" + kind + "," + n + "," + tenths + ")", seat.plait(kind, n, tenths),
                    model.plait(kind, n, tenths)); }
            case 20 -> { int tenths = pick(1, 10);
                due("bears(" + n + "," + tenths + ")", seat.bears(n, tenths), model.bears(n, tenths)); }
            case 21 -> { int w = pick(0, 2); due("mend(" + n + "," + w + ")", seat.mend(n, w), model.mend(n, w)); }
            case 22, 23 -> { int b = pick(0, 3); int w = pick(0, 4);
                due("duel(" + k + "," + b + "," + n + "," + w + ")", seat.duel(k, b, n, w), model.duel(k, b, n, w)); }
            case 24 -> { int w = pick(0, 2); due("crown(" + n + "," + w + ")", seat.crown(n, w), model.crown(n, w)); }
            case 25 -> { int set = pick(0, 7);
                due("reads(" + set + "," + part + ")", seat.reads(set, part), model.reads(set, part)); }
            case 26 -> { int w = pick(0, 2); due("laws(" + w + ")", seat.laws(w), model.laws(w)); }
            default -> callMore(which, n, part, k);
        }
    }

    private void hours() {
        int breaks = random.nextInt(3) == 0 ? pick(0, 7) : 0;
        int times = random.nextInt(20) == 0 ? 100 : 1;
        for (int i = 0; i < times && calls < CALLS; i++) {
            due("hour(" + breaks + ")", seat.hour(breaks), model.hour(breaks));
        }
    }

    private void callMore(int which, int n, int part, int k) {
        switch (which) {
            case 27 -> due("see(" + n + "," + k + ")", seat.see(n, k), model.see(n, k));
            case 28 -> { int m = pick(0, 5); due("forget(" + m + ")", seat.forget(m), model.forget(m)); }
            case 29 -> { int kind = pick(0, 4); int m = pick(1, 3);
                due("likely(" + kind + "," + m + "," + part + ")", seat.likely(kind, m, part),
                    model.likely(kind, m, part)); }
            case 30 -> { int w = pick(0, 2);
                if (random.nextInt(4) == 0) { due("guess(" + w + ")", seat.guess(w), model.guess(w)); } }
            case 31 -> { int seed = random.nextInt(); int h = pick(1, 60);
                due("drift(" + seed + "," + h + "," + part + ")", seat.drift(seed, h, part),
                    model.drift(seed, h, part)); }
            case 32 -> due("keep(" + part + ")", seat.keep(part), model.keep(part));
            case 33 -> due("back(" + part + ")", seat.back(part), model.back(part));
            case 34 -> { int lane = pick(0, 2); int cells = random.nextInt(10) == 0 ? -1 : pick(0, 40);
                due("sheet(" + k + "," + lane + "," + cells + ")", seat.sheet(k, lane, cells),
                    model.sheet(k, lane, cells)); }
            case 35 -> { int cell = pick(0, 20); int v = random.nextInt(4) == 0 ? random.nextInt() & ~0xf : pick(0, 7);
                due("lay(" + k + "," + cell + "," + v + ")", seat.lay(k, cell, v), model.lay(k, cell, v)); }
            case 36 -> { int lane = pick(0, 2); int f = pick(0, 39); int h = pick(0, 20);
                String call = "read(" + k + "," + lane + "," + f + "," + h + ")";
                due(call, seat.read(k, lane, f, h), model.read(k, lane, f, h));
                due("torn() behind " + call, seat.torn(), model.torn()); }
            default -> { int w = pick(0, 5); due("count(" + w + ")", seat.count(w), model.count(w)); }
        }
    }
}
