import java.util.List;
import java.util.function.Supplier;

/** What is refused changes nothing (but THE TAPE, as told); nor does a call that only asks. */
public final class RefusedTest {
    private static final Check CHECK = new Check();
    private static final int MIN = Integer.MIN_VALUE;
    private static final int MAX = Integer.MAX_VALUE;

    private interface Call {
        long answer(SwordSeat x);
    }

    public static void main(String[] args) {
        probeSees();
        texts();
        changes();
        hours();
        seen();
        images();
        sheets();
        reads();
        questions();
        refusedTextKeepsAllButTheTape();
        CHECK.close();
    }

    /** Something in each place; IMAGE 1 and SHEET 3 are not there. With the probe it stays below 512 calls. */
    private static SwordSeat rich() {
        SwordSeat x = Check.told("hair plain 1;hair damp 2;hair sung 3;king 5 20;king 9 7;law 2 7;law 3 4;load 4;prize 15;");
        x.see(0, 3);
        x.see(1, 2);
        x.keep(0);
        x.hour(2);
        x.sheet(0, 0, 2);
        x.lay(0, 1, 4);
        x.sheet(1, 1, 3);
        x.lay(1, 0, 1);
        x.lay(1, 2, 2);
        x.sheet(2, 2, 2);
        x.lay(2, 0, 5);
        x.read(0, 0, 2, 1);
        Check.tell(x, "load A");
        Check.feedAll(x, "prize 3;");
        return x;
    }

    private static SwordSeat fallen() {
        SwordSeat x = rich();
        x.hour(5);
        return x;
    }

    /** HOUR is 99, all is WHOLE. */
    private static SwordSeat late() {
        SwordSeat x = Check.told("hair plain 0;hair plain 0;");
        x.sheet(0, 0, 20);
        for (int i = 0; i < 5; i++) {
            x.read(0, 0, 0, i == 0 ? 19 : 20);
        }
        return x;
    }

    private static SwordSeat fullTape() {
        SwordSeat x = new SwordSeat();
        Check.feedAll(x, "load 5;prize 1;hair plain 3;" + " ".repeat(132));
        return x;
    }

    private static SwordSeat fullSeen() {
        SwordSeat x = rich();
        for (int i = 0; i < 4; i++) {
            x.see(2 + i, 2 - i / 2);
        }
        return x;
    }

    private static void same(String call, Supplier<SwordSeat> made, Call done, long due) {
        SwordSeat x = made.get();
        CHECK.due(call, done.answer(x), due);
        CHECK.dueSame(call + " changes nothing", Probe.of(x), Probe.of(made.get()));
    }

    private static void refused(String call, Call done, long due) {
        same(call, RefusedTest::rich, done, due);
    }

    /** If these were not seen, the tests below would tell nothing. */
    private static void probeSees() {
        List<Long> before = Probe.of(rich());
        Call[] changes = {x -> x.feed(32), x -> x.end(7), x -> x.end(0) + x.feed('l'), x -> x.set(0, 5),
            x -> x.set(1, 16), x -> x.age(1, 9), x -> x.dye(1, 0), x -> x.knot(1, true), x -> x.knot(0, false),
            x -> x.pay(1, 0, 8), x -> x.pay(1, 1, 8), x -> x.hour(0), x -> x.see(2, 2), x -> x.forget(1),
            x -> x.forget(1) + x.see(1, 1), x -> x.keep(0), x -> x.keep(1), x -> x.back(0), x -> x.sheet(0, 1, 2),
            x -> x.sheet(3, 0, 0), x -> x.sheet(1, 1, 3), x -> x.lay(0, 0, 1), x -> x.lay(0, 1, 3), x -> x.lay(1, 1, 2),
            x -> x.lay(2, 0, 4), x -> x.read(0, 0, 0, 0), x -> x.read(0, 0, 0, 1), x -> x.text()};
        for (int i = 0; i < changes.length; i++) {
            SwordSeat x = rich();
            changes[i].answer(x);
            CHECK.holds("change " + i + " is seen", !Probe.of(x).equals(before));
        }
    }

    private static void texts() {
        refused("feed(-1)", x -> x.feed(-1), -1);
        refused("feed(128)", x -> x.feed(128), -1);
        refused("feed(256 + 32)", x -> x.feed(288), -1);
        same("feed(32) on 160 bytes", RefusedTest::fullTape, x -> x.feed(32), -3);
        same("feed(128) on 160 bytes", RefusedTest::fullTape, x -> x.feed(128), -1);
        refused("end(-1)", x -> x.end(-1), -1);
        refused("end(9) of 8 bytes", x -> x.end(9), -1);
        same("end(161) of 160 bytes", RefusedTest::fullTape, x -> x.end(161), -1);
    }

    private static void changes() {
        int[] wrongHairs = {-1, 3, MIN, MAX};
        for (int i : wrongHairs) {
            refused("age(" + i + ", 4)", x -> x.age(i, 4), -1);
            refused("dye(" + i + ", 4)", x -> x.dye(i, 4), -1);
            refused("knot(" + i + ", true)", x -> x.knot(i, true), -1);
            refused("knot(" + i + ", false)", x -> x.knot(i, false), -1);
        }
        int[] wrongKings = {-1, 2, MIN, MAX};
        for (int k : wrongKings) {
            refused("pay(" + k + ", 0, 4)", x -> x.pay(k, 0, 4), -1);
            refused("pay(" + k + ", 1, 4)", x -> x.pay(k, 1, 4), -1);
        }
        int[][] wrongSets = {{-1, 4}, {2, 4}, {0, 0}, {0, 10}, {0, -3}, {1, -1}, {1, 100}, {0, MIN}, {1, MAX}};
        for (int[] w : wrongSets) {
            refused("set(" + w[0] + ", " + w[1] + ")", x -> x.set(w[0], w[1]), -1);
        }
        int[][] wrongPays = {{-1, 4}, {2, 4}, {0, 10}, {0, -1}, {1, -1}, {1, 100}, {0, MIN}, {1, MAX}};
        for (int[] w : wrongPays) {
            refused("pay(0, " + w[0] + ", " + w[1] + ")", x -> x.pay(0, w[0], w[1]), -1);
        }
        refused("age(0, -1)", x -> x.age(0, -1), -1);
        refused("age(0, 10)", x -> x.age(0, 10), -1);
        refused("dye(0, -1)", x -> x.dye(0, -1), -1);
        refused("dye(0, 5)", x -> x.dye(0, 5), -1);
    }

    private static void hours() {
        int[] wrong = {-1, 2, 3, 6, 7, 8, 9, 256, 65536, 1 << 30, MIN, MIN + 1, MAX};
        for (int breaks : wrong) {
            refused("hour(" + breaks + ") of 5", x -> x.hour(breaks), -1);
        }
        same("hour(0) under a fallen sword", RefusedTest::fallen, x -> x.hour(0), -2);
        same("hour(1) under a fallen sword", RefusedTest::fallen, x -> x.hour(1), -1);
        same("hour(0), the 100th", RefusedTest::late, x -> x.hour(0), -3);
        same("hour(3), the 100th", RefusedTest::late, x -> x.hour(3), -3);
        same("hour(4), the 100th", RefusedTest::late, x -> x.hour(4), -1);
        same("hour(0) without hairs", SwordSeat::new, x -> x.hour(0), -2);
    }

    private static void seen() {
        refused("see(-1, 0)", x -> x.see(-1, 0), -1);
        refused("see(6, 0)", x -> x.see(6, 0), -1);
        refused("see(0, -1)", x -> x.see(0, -1), -1);
        refused("see(0, 4)", x -> x.see(0, 4), -1);
        same("the 7th see(0, 0)", RefusedTest::fullSeen, x -> x.see(0, 0), -3);
        same("the 7th see(0, 4)", RefusedTest::fullSeen, x -> x.see(0, 4), -1);
        refused("forget(-1)", x -> x.forget(-1), -1);
        refused("forget(3) of 2", x -> x.forget(3), -1);
        same("forget(7) of 6", RefusedTest::fullSeen, x -> x.forget(7), -1);
    }

    private static void images() {
        int[] wrong = {-1, 2, MIN, MAX};
        for (int k : wrong) {
            refused("keep(" + k + ")", x -> x.keep(k), -1);
            refused("back(" + k + ")", x -> x.back(k), -1);
        }
        refused("back(1) of none", x -> x.back(1), -2);
    }

    private static void sheets() {
        int[][] wrong = {{-1, 0, 1}, {4, 0, 1}, {0, -1, 1}, {0, 3, 1}, {0, 1, 41}, {0, 1, MAX}, {4, 0, -1}, {0, 3, -1}};
        for (int[] w : wrong) {
            refused("sheet(" + w[0] + ", " + w[1] + ", " + w[2] + ")", x -> x.sheet(w[0], w[1], w[2]), -1);
        }
        int[] below = {-1, -10, -40, MIN};
        for (int n : below) {
            refused("sheet(0, 1, " + n + ")", x -> x.sheet(0, 1, n), -14);
            refused("sheet(3, 1, " + n + ")", x -> x.sheet(3, 1, n), -14);
        }
        refused("lay(-1, 0, 7)", x -> x.lay(-1, 0, 7), -1);
        refused("lay(4, 0, 7)", x -> x.lay(4, 0, 7), -1);
        refused("lay(3, 0, 7)", x -> x.lay(3, 0, 7), -11);
        refused("lay(3, -1, 7)", x -> x.lay(3, -1, 7), -11);
        int[] outside = {-1, 2, 40, MIN, MAX};
        for (int i : outside) {
            refused("lay(0, " + i + ", 7)", x -> x.lay(0, i, 7), -12);
        }
    }

    private static void reads() {
        int[][] wrong = {{-1, 0, 0, 1}, {4, 0, 0, 1}, {0, -1, 0, 1}, {0, 3, 0, 1}, {0, 0, 0, -1}, {0, 0, 0, 21},
            {0, 0, 0, MAX}, {0, 0, 0, MIN}, {3, 3, 0, 1}, {3, 0, -1, 21}};
        for (int[] w : wrong) {
            String call = "read(" + w[0] + ", " + w[1] + ", " + w[2] + ", " + w[3] + ")";
            refused(call, x -> x.read(w[0], w[1], w[2], w[3]), -1);
        }
        refused("read(): the 0th is not whole", x -> x.read(1, 1, 2, 1), -20);
        refused("read(): the 2nd is not whole", x -> x.read(1, 1, 0, 3), -22);
        refused("read(): the 1st under a fallen sword", x -> x.read(2, 2, 0, 2), -21);
        same("read() under a fallen sword", RefusedTest::fallen, x -> x.read(0, 0, 0, 1), -20);
        same("read(): the 100th hour", RefusedTest::late, x -> x.read(0, 0, 0, 1), -20);
    }

    /** Asking, refused or not, leaves all as it is. */
    private static void questions() {
        for (int i = -1; i <= 4; i++) {
            for (int j = -1; j <= 6; j++) {
                int a = i;
                int b = j;
                SwordSeat x = rich();
                askMost(x, a, b);
                CHECK.dueSame("asking by " + a + " and " + b, Probe.of(x), Probe.of(rich()));
            }
        }
    }

    private static void askMost(SwordSeat x, int a, int b) {
        x.falls(b, a);
        x.left(b, a, 0);
        x.mean(b, a);
        x.sits(a, b, 0);
        x.best(a, b, 2);
        x.test(b, a, 0);
        x.plait(a, b, 5);
        x.bears(b, 5);
        x.mend(b, a);
        x.duel(a, 1 - a, b, 4);
        x.crown(b, a);
        x.reads(b, a);
        x.laws(a);
        x.likely(b, a, 0);
        x.guess(a);
        x.drift(a, b, 0);
        x.drift(b, 60, 1);
    }

    private static void refusedTextKeepsAllButTheTape() {
        String[] texts = {"A", "hair plain 9;king 1 1;law 1 1;load 9;prize 9;broken 0;;", "hair sung 0;broken 1;",
            "load 1;load 2;", "prize 0;broken 3;", "hair plain 0;hair plain 0;hair plain 0;hair plain 0;"};
        for (String text : texts) {
            SwordSeat x = rich();
            SwordSeat y = rich();
            x.end(0);
            y.end(0);
            Check.tell(x, text);
            CHECK.holds("'" + text + "' is refused", x.fault() != 0);
            CHECK.due("the tape of '" + text + "' is empty then", x.count(2), 0);
            CHECK.due("so is that of 'A'", Check.tell(y, "A"), -10);
            List<Long> got = Probe.of(x);
            List<Long> want = Probe.of(y);
            // fault() is of the latest text: it is asked three times ahead of the probe's own text().
            CHECK.due("as many answers", got.size(), want.size());
            CHECK.due("what '" + text + "' changed", differing(got, want), text.equals("A") ? 0 : 3);
        }
    }

    private static int differing(List<Long> a, List<Long> b) {
        int many = 0;
        for (int i = 0; i < Math.min(a.size(), b.size()); i++) {
            many += a.get(i).equals(b.get(i)) ? 0 : 1;
        }
        return many;
    }
}
