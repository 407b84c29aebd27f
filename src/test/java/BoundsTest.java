import java.util.function.Supplier;

/** Each number of each call, from the least that is told to the greatest: all of these stand, none beside them. */
public final class BoundsTest {
    private static final Check CHECK = new Check();
    private static final int BAD = -1;

    private interface Call {
        long answer(SwordSeat x, int v);
    }

    private static int promise;

    public static void main(String[] args) {
        theText();
        whatThereIs();
        whatIsChanged();
        byOdds();
        whatIsToBeDone();
        kingsAndLaws();
        howManyThereHadBeen();
        bySeed();
        imagesAndSheets();
        ofNothing();
        CHECK.close();
    }

    /** Three HAIRS, two KINGS, two LAWS, 8 bytes, 2 SEEN, IMAGE 0, SHEET 0 of 2 BYTES. */
    private static SwordSeat seat() {
        SwordSeat x = Check.told("hair plain 1;hair damp 2;hair sung 3;king 5 20;king 9 7;law 2 7;law 3 4;load 4;");
        x.see(0, 3);
        x.see(1, 2);
        x.keep(0);
        x.sheet(0, 0, 2);
        Check.feedAll(x, "prize 3;");
        return x;
    }

    private static void bounds(String call, int least, int most, Call done) {
        bounds(call, least, most, done, BAD, BAD, BoundsTest::seat);
    }

    private static void bounds(String call, int least, int most, Call done, long below, long above,
        Supplier<SwordSeat> made) {
        for (int v = least; v <= most; v++) {
            long got = done.answer(made.get(), v);
            CHECK.holds("promise " + promise + ": " + call + " with " + v + " answered " + got,
                got != below && got != above && got != BAD);
        }
        for (int v : beside(least, most)) {
            long due = v < least ? below : above;
            CHECK.due("promise " + promise + ": " + call + " with " + v, done.answer(made.get(), v), due);
        }
    }

    /** The next ones, the outermost, and such as are in the bounds by their lowest 8, 16 or 31 bits. */
    private static int[] beside(int least, int most) {
        return new int[] {least - 1, least - 2, most + 1, most + 2, Integer.MIN_VALUE, Integer.MIN_VALUE + 1,
            Integer.MAX_VALUE, Integer.MAX_VALUE - 1, least - 256, most + 256, least - 65536, most + 65536,
            least + Integer.MIN_VALUE, -1000, 1000};
    }

    private static void theText() {
        promise = 2;
        bounds("feed(v)", 0, 127, (x, v) -> x.feed(v));
        promise = 3;
        bounds("end(v)", 0, 8, (x, v) -> x.end(v));
        bounds("end(v) of nothing", 0, 0, (x, v) -> x.end(v), BAD, BAD, SwordSeat::new);
    }

    private static void whatThereIs() {
        promise = 6;
        bounds("rule(v)", 0, 7, (x, v) -> x.rule(v));
        promise = 7;
        for (int what = 0; what < 4; what++) {
            int w = what;
            bounds("hair(v, " + w + ")", 0, 2, (x, v) -> x.hair(v, w));
        }
        bounds("hair(0, v)", 0, 3, (x, v) -> x.hair(0, v));
        promise = 8;
        bounds("king(v, 0)", 0, 1, (x, v) -> x.king(v, 0));
        bounds("king(v, 1)", 0, 1, (x, v) -> x.king(v, 1));
        bounds("king(1, v)", 0, 1, (x, v) -> x.king(1, v));
        promise = 9;
        bounds("law(v, 0)", 0, 1, (x, v) -> x.law(v, 0));
        bounds("law(v, 1)", 0, 1, (x, v) -> x.law(v, 1));
        bounds("law(1, v)", 0, 1, (x, v) -> x.law(1, v));
    }

    private static void whatIsChanged() {
        promise = 10;
        bounds("set(v, 5)", 0, 1, (x, v) -> x.set(v, 5));
        bounds("set(0, v)", 1, 9, (x, v) -> x.set(0, v));
        bounds("set(1, v)", 0, 99, (x, v) -> x.set(1, v));
        promise = 11;
        bounds("age(v, 5)", 0, 2, (x, v) -> x.age(v, 5));
        bounds("age(0, v)", 0, 9, (x, v) -> x.age(0, v));
        promise = 12;
        bounds("dye(v, 3)", 0, 2, (x, v) -> x.dye(v, 3));
        bounds("dye(0, v)", 0, 4, (x, v) -> x.dye(0, v));
        promise = 13;
        bounds("knot(v, true)", 0, 2, (x, v) -> x.knot(v, true));
        bounds("knot(v, false)", 0, 2, (x, v) -> x.knot(v, false));
        promise = 14;
        bounds("pay(v, 0, 5)", 0, 1, (x, v) -> x.pay(v, 0, 5));
        bounds("pay(v, 1, 5)", 0, 1, (x, v) -> x.pay(v, 1, 5));
        bounds("pay(0, v, 5)", 0, 1, (x, v) -> x.pay(0, v, 5));
        bounds("pay(0, 0, v)", 0, 9, (x, v) -> x.pay(0, 0, v));
        bounds("pay(1, 1, v)", 0, 99, (x, v) -> x.pay(1, 1, v));
        promise = 15;
        bounds("hour(v)", 0, 7, (x, v) -> x.hour(v));
    }

    private static void byOdds() {
        promise = 16;
        bounds("falls(v, 0)", 0, 5, (x, v) -> x.falls(v, 0));
        bounds("falls(1, v)", 0, 1, (x, v) -> x.falls(1, v));
        promise = 17;
        bounds("left(v, 2, 0)", 0, 5, (x, v) -> x.left(v, 2, 0));
        bounds("left(1, v, 0)", 0, 3, (x, v) -> x.left(1, v, 0));
        bounds("left(1, 2, v)", 0, 1, (x, v) -> x.left(1, 2, v));
        promise = 18;
        bounds("mean(v, 0)", 0, 5, (x, v) -> x.mean(v, 0));
        bounds("mean(1, v)", 0, 1, (x, v) -> x.mean(1, v));
        promise = 19;
        bounds("sits(v, 1, 0)", 0, 1, (x, v) -> x.sits(v, 1, 0));
        bounds("sits(0, v, 0)", 0, 5, (x, v) -> x.sits(0, v, 0));
        bounds("sits(0, 1, v)", 0, 1, (x, v) -> x.sits(0, 1, v));
        promise = 20;
        bounds("best(v, 1, 2)", 0, 1, (x, v) -> x.best(v, 1, 2));
        bounds("best(0, v, 2)", 0, 5, (x, v) -> x.best(0, v, 2));
        bounds("best(0, 1, v)", 0, 2, (x, v) -> x.best(0, 1, v));
        promise = 21;
        bounds("test(v, 1, 0)", 1, 9, (x, v) -> x.test(v, 1, 0));
        bounds("test(3, v, 0)", 0, 4, (x, v) -> x.test(3, v, 0));
        bounds("test(3, 1, v)", 0, 1, (x, v) -> x.test(3, 1, v));
    }

    private static void whatIsToBeDone() {
        promise = 22;
        bounds("plait(v, 1, 5)", 0, 4, (x, v) -> x.plait(v, 1, 5));
        bounds("plait(0, v, 5)", 0, 5, (x, v) -> x.plait(0, v, 5));
        bounds("plait(0, 1, v)", 1, 10, (x, v) -> x.plait(0, 1, v));
        promise = 23;
        bounds("bears(v, 5)", 0, 5, (x, v) -> x.bears(v, 5));
        bounds("bears(1, v)", 1, 10, (x, v) -> x.bears(1, v));
        promise = 24;
        bounds("mend(v, 0)", 0, 5, (x, v) -> x.mend(v, 0));
        bounds("mend(1, v)", 0, 2, (x, v) -> x.mend(1, v));
    }

    private static void kingsAndLaws() {
        promise = 25;
        bounds("duel(v, 0, 1, 1)", 1, 1, (x, v) -> x.duel(v, 0, 1, 1));
        bounds("duel(v, 1, 1, 1)", 0, 0, (x, v) -> x.duel(v, 1, 1, 1));
        bounds("duel(0, v, 1, 1)", 1, 1, (x, v) -> x.duel(0, v, 1, 1));
        bounds("duel(1, v, 1, 1)", 0, 0, (x, v) -> x.duel(1, v, 1, 1));
        bounds("duel(0, 1, v, 1)", 0, 5, (x, v) -> x.duel(0, 1, v, 1));
        bounds("duel(0, 1, 1, v)", 0, 4, (x, v) -> x.duel(0, 1, 1, v));
        promise = 26;
        bounds("crown(v, 0)", 0, 5, (x, v) -> x.crown(v, 0));
        bounds("crown(1, v)", 0, 2, (x, v) -> x.crown(1, v));
        promise = 27;
        bounds("reads(v, 0)", 0, 3, (x, v) -> x.reads(v, 0));
        bounds("reads(1, v)", 0, 1, (x, v) -> x.reads(1, v));
        promise = 28;
        bounds("laws(v)", 0, 2, (x, v) -> x.laws(v));
    }

    private static void howManyThereHadBeen() {
        promise = 29;
        bounds("see(v, 1)", 0, 5, (x, v) -> x.see(v, 1));
        bounds("see(1, v)", 0, 3, (x, v) -> x.see(1, v));
        promise = 30;
        bounds("forget(v)", 0, 2, (x, v) -> x.forget(v));
        bounds("forget(v) of nothing", 0, 0, (x, v) -> x.forget(v), BAD, BAD, SwordSeat::new);
        promise = 31;
        bounds("likely(v, 3, 0)", 0, 4, (x, v) -> x.likely(v, 3, 0));
        bounds("likely(0, v, 0)", 1, 3, (x, v) -> x.likely(0, v, 0));
        bounds("likely(0, 3, v)", 0, 1, (x, v) -> x.likely(0, 3, v));
        promise = 32;
        bounds("guess(v)", 0, 2, (x, v) -> x.guess(v));
    }

    private static void bySeed() {
        promise = 33;
        bounds("drift(1, v, 0)", 1, 60, (x, v) -> x.drift(1, v, 0));
        bounds("drift(1, 1, v)", 0, 1, (x, v) -> x.drift(1, 1, v));
        for (int seed : beside(0, 0)) {
            CHECK.holds("any seed stands, " + seed, seat().drift(seed, 1, 0) >= 0);
        }
    }

    private static void imagesAndSheets() {
        promise = 34;
        bounds("keep(v)", 0, 1, (x, v) -> x.keep(v));
        promise = 35;
        bounds("back(v)", 0, 1, (x, v) -> x.back(v));
        promise = 36;
        bounds("sheet(v, 0, 1)", 0, 3, (x, v) -> x.sheet(v, 0, 1));
        bounds("sheet(0, v, 1)", 0, 2, (x, v) -> x.sheet(0, v, 1));
        for (int lane = 0; lane < 3; lane++) {
            int l = lane;
            bounds("sheet(3, " + l + ", v)", 0, 40, (x, v) -> x.sheet(3, l, v), -14, BAD, BoundsTest::seat);
        }
        promise = 37;
        bounds("lay(v, 0, 1)", 0, 3, (x, v) -> x.lay(v, 0, 1));
        bounds("lay(0, v, 1)", 0, 1, (x, v) -> x.lay(0, v, 1), -12, -12, BoundsTest::seat);
        for (int v : beside(0, 0)) {
            CHECK.due("any number may be laid, " + v, seat().lay(0, 0, v), 1);
        }
        promise = 38;
        bounds("read(v, 0, 0, 0)", 0, 3, (x, v) -> x.read(v, 0, 0, 0));
        bounds("read(0, v, 0, 0)", 0, 2, (x, v) -> x.read(0, v, 0, 0));
        bounds("read(0, 0, 0, v)", 0, 20, (x, v) -> x.read(0, 0, 0, v));
        bounds("read(0, 0, v, 1)", 0, 1, (x, v) -> x.read(0, 0, v, 1), 0, 0, BoundsTest::seat);
        promise = 40;
        bounds("count(v)", 0, 5, (x, v) -> x.count(v));
    }

    /** Where there are no HAIRS, KINGS, LAWS, no number of one stands. */
    private static void ofNothing() {
        for (int v : new int[] {0, 1, 2, 3, 4, -1, Integer.MIN_VALUE, Integer.MAX_VALUE}) {
            SwordSeat x = new SwordSeat();
            CHECK.due("new: hair(" + v + ", 0)", x.hair(v, 0), BAD);
            CHECK.due("new: king(" + v + ", 0)", x.king(v, 0), BAD);
            CHECK.due("new: law(" + v + ", 0)", x.law(v, 0), BAD);
            CHECK.due("new: age(" + v + ", 0)", x.age(v, 0), BAD);
            CHECK.due("new: dye(" + v + ", 0)", x.dye(v, 0), BAD);
            CHECK.due("new: knot(" + v + ", true)", x.knot(v, true), BAD);
            CHECK.due("new: knot(" + v + ", false)", x.knot(v, false), BAD);
            CHECK.due("new: pay(" + v + ", 0, 0)", x.pay(v, 0, 0), BAD);
            CHECK.due("new: sits(" + v + ", 0, 0)", x.sits(v, 0, 0), BAD);
            CHECK.due("new: best(" + v + ", 0, 2)", x.best(v, 0, 2), BAD);
            CHECK.due("new: duel(" + v + ", 0, 0, 0)", x.duel(v, 0, 0, 0), BAD);
            CHECK.due("new: duel(0, " + v + ", 0, 0)", x.duel(0, v, 0, 0), BAD);
            CHECK.due("new: reads(" + v + ", 0)", x.reads(v, 0), v == 0 ? 0 : BAD);
        }
    }
}
