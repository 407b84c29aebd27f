/** Promises 16 to 24 at their edges, sentence by sentence. */
public final class OddsEdgesTest {
    private static final Check CHECK = new Check();
    private static final String SURE_TO_HOLD = "hair sung 0;load 1;";
    private static final String SURE_TO_FALL = "hair dyed 9;load 9;";

    public static void main(String[] args) {
        noHoursAtAll();
        underAFallenSword();
        sureToHoldOrToFall();
        ageIs9AtMost();
        allAtOnce();
        leftAddsUp();
        sittingAtTheEdges();
        aMeanOf0IsNotMore();
        theLeastMoreThan0();
        testingAtTheEdges();
        plaitingByTenths();
        bearingByTenths();
        mendingAtTheEdges();
        CHECK.close();
    }

    private static void dueFalls(SwordSeat x, int n, long top, long bottom) {
        CHECK.dueRatio("falls(" + n + ")", x.falls(n, 0), x.falls(n, 1), top, bottom);
    }

    private static void dueSits(SwordSeat x, int k, int n, long top, long bottom) {
        CHECK.dueRatio("sits(" + k + ", " + n + ")", x.sits(k, n, 0), x.sits(k, n, 1), top, bottom);
    }

    private static void dueBest(SwordSeat x, int k, int n, long top, long bottom, int sits) {
        CHECK.dueRatio("best(" + k + ", " + n + ")", x.best(k, n, 0), x.best(k, n, 1), top, bottom);
        CHECK.due("best(" + k + ", " + n + "): he sits", x.best(k, n, 2), sits);
    }

    private static void dueTest(SwordSeat x, int v, int n, long top, long bottom) {
        CHECK.dueRatio("test(" + v + ", " + n + ")", x.test(v, n, 0), x.test(v, n, 1), top, bottom);
    }

    /** Behind 0 HOURS all is as it is, however weak the HAIRS. */
    private static void noHoursAtAll() {
        for (int whole = 1; whole <= 3; whole++) {
            SwordSeat x = Check.told("hair dyed 9;".repeat(whole) + "load 9;king 9 99;");
            dueFalls(x, 0, 0, 1);
            for (int k = 0; k <= 3; k++) {
                CHECK.dueRatio("left(0, " + k + ")", x.left(0, k, 0), x.left(0, k, 1), k == whole ? 1 : 0, 1);
            }
            CHECK.dueRatio("mean(0)", x.mean(0, 0), x.mean(0, 1), whole, 1);
            dueSits(x, 0, 0, 0, 1);
            dueBest(x, 0, 0, 0, 1, 0);
            CHECK.due("plait of no hours", x.plait(2, 0, 10), 1);
            CHECK.due("bears for no hours", x.bears(0, 10), 9);
            CHECK.due("mend for no hours", x.mend(0, 0), -4);
        }
    }

    /** Is the sword FALLEN, nothing breaks; a KING does not sit under it. */
    private static void underAFallenSword() {
        String[] texts = {"king 9 99;", "king 9 99;hair plain 0;broken 0;",
            "king 9 99;hair plain 9;hair dyed 9;hair sung 9;broken 0;broken 1;broken 2;"};
        for (String text : texts) {
            SwordSeat x = Check.told(text);
            for (int n = 0; n <= 5; n++) {
                dueFalls(x, n, 1, 1);
                for (int k = 0; k <= 3; k++) {
                    CHECK.dueRatio("fallen: left(" + n + ", " + k + ")", x.left(n, k, 0), x.left(n, k, 1), k == 0 ? 1 : 0, 1);
                }
                CHECK.dueRatio("fallen: mean(" + n + ")", x.mean(n, 0), x.mean(n, 1), 0, 1);
                dueSits(x, 0, n, 0, 1);
                dueBest(x, 0, n, 0, 1, 0);
                CHECK.due("fallen: bears(" + n + ", 1)", x.bears(n, 1), -4);
            }
            for (int n = 0; n <= 4; n++) {
                dueTest(x, 1, n, 0, 1);
            }
        }
    }

    /** BREAKS of 0 and of 10: 0 by 1, 1 by 1. */
    private static void sureToHoldOrToFall() {
        SwordSeat x = Check.told(SURE_TO_HOLD + "king 9 99;");
        SwordSeat y = Check.told(SURE_TO_FALL + "king 9 99;");
        for (int n = 1; n <= 5; n++) {
            dueFalls(x, n, 0, 1);
            dueFalls(y, n, 1, 1);
            CHECK.dueRatio("one is left", x.left(n, 1, 0), x.left(n, 1, 1), 1, 1);
            CHECK.dueRatio("none is left", y.left(n, 0, 0), y.left(n, 0, 1), 1, 1);
            CHECK.dueRatio("the mean is 1", x.mean(n, 0), x.mean(n, 1), 1, 1);
            CHECK.dueRatio("the mean is 0", y.mean(n, 0), y.mean(n, 1), 0, 1);
        }
    }

    /** AGE is 1 more (9 at most): behind it BREAKS grow no more. LOAD 1, one plain HAIR. */
    private static void ageIs9AtMost() {
        SwordSeat x = Check.told("hair plain 9;load 1;");
        long[][] of9 = {{0, 1}, {2, 5}, {16, 25}, {98, 125}, {544, 625}, {2882, 3125}};
        for (int n = 0; n <= 5; n++) {
            dueFalls(x, n, of9[n][0], of9[n][1]);
        }
        x.age(0, 7);
        dueFalls(x, 5, 5683, 6250);
        x.age(0, 5);
        dueFalls(x, 5, 2684, 3125);
    }

    /** Each breaks by BREAKS as all is when the HOUR begins: the strain of one is not that of the other one's break. */
    private static void allAtOnce() {
        SwordSeat x = Check.told("hair plain 0;hair plain 0;load 4;");
        dueFalls(x, 1, 1, 100);
        CHECK.dueRatio("one of two", x.left(1, 1, 0), x.left(1, 1, 1), 9, 50);
        x = Check.told("hair plain 0;hair plain 0;hair plain 0;load 9;");
        dueFalls(x, 1, 1, 125);
        CHECK.dueRatio("two of three", x.left(1, 2, 0), x.left(1, 2, 1), 48, 125);
    }

    private static void leftAddsUp() {
        SwordSeat x = Check.told("hair plain 4;hair dyed 2;hair sung 9;load 5;");
        for (int n = 0; n <= 5; n++) {
            Ratio sum = Ratio.ZERO;
            for (int k = 0; k <= 3; k++) {
                sum = sum.plus(Ratio.of(x.left(n, k, 0), x.left(n, k, 1)));
            }
            CHECK.due("left behind " + n + " adds up to 1", sum.compareTo(Ratio.ONE), 0);
            CHECK.due("left none is falls, numerator", x.left(n, 0, 0), x.falls(n, 0));
            CHECK.due("left none is falls, denominator", x.left(n, 0, 1), x.falls(n, 1));
        }
        CHECK.dueRatio("more than there are", Check.told("hair plain 0;").left(1, 2, 0),
            Check.told("hair plain 0;").left(1, 2, 1), 0, 1);
    }

    /** He has WORTH, if the sword is not FALLEN behind it; is it, he loses LIFE, and it is over. */
    private static void sittingAtTheEdges() {
        String kings = "king 9 99;king 0 99;king 9 0;king 0 0;";
        SwordSeat holds = Check.told(SURE_TO_HOLD + kings);
        SwordSeat falls = Check.told(SURE_TO_FALL + kings);
        for (int n = 1; n <= 5; n++) {
            dueSits(holds, 0, n, 9 * n, 1);
            dueSits(holds, 1, n, 0, 1);
            dueSits(falls, 0, n, -99, 1);
            dueSits(falls, 2, n, 0, 1);
            dueSits(falls, 3, n, 0, 1);
            dueBest(holds, 0, n, 9 * n, 1, 1);
            dueBest(holds, 1, n, 0, 1, 0);
            dueBest(falls, 0, n, 0, 1, 0);
            dueBest(falls, 2, n, 0, 1, 0);
        }
        CHECK.due("no fifth king sits", holds.sits(4, 1, 0), -1);
    }

    /** He sits, if the mean is more than 0, else he leaves. One plain HAIR breaks by 2 tenths. */
    private static void aMeanOf0IsNotMore() {
        SwordSeat x = Check.told("hair plain 0;king 1 4;king 1 3;king 1 5;");
        dueSits(x, 0, 1, 0, 1);
        dueBest(x, 0, 1, 0, 1, 0);
        dueBest(x, 1, 1, 1, 5, 1);
        dueBest(x, 2, 1, 0, 1, 0);
        dueSits(x, 2, 1, -1, 5);
        // In the second HOUR it breaks by 2 tenths, too: what is 0 in each is 0 in both.
        dueBest(x, 0, 2, 0, 1, 0);
        dueBest(x, 1, 2, 9, 25, 1);
        // In the third by 3: he who sat twice leaves.
        dueBest(x, 1, 3, 9, 25, 1);
        dueSits(x, 1, 3, 29, 125);
    }

    /** Three HAIRS that break by 3 tenths each: it falls by 27 of 1000, so a LIFE of 36 leaves 1 of 1000. */
    private static void theLeastMoreThan0() {
        SwordSeat x = Check.told("hair dyed 0;hair dyed 0;hair dyed 0;load 6;king 1 36;king 1 37;prize 0;");
        dueBest(x, 0, 1, 1, 1000, 1);
        dueBest(x, 1, 1, 0, 1, 0);
        dueSits(x, 1, 1, -13, 500);
        CHECK.due("the first of a duel sits by it, too", x.duel(0, 1, 1, 4), 1);
        CHECK.dueRatio("what he has", x.duel(0, 1, 1, 0), x.duel(0, 1, 1, 1), 1, 1000);
        x.set(1, 99);
        CHECK.dueRatio("the other one has no prize but by the fall", x.duel(0, 1, 1, 2), x.duel(0, 1, 1, 3), 2673, 1000);
        CHECK.due("the next one leaves", x.duel(1, 0, 1, 4), 0);
        CHECK.due("king 0 is crowned", x.crown(1, 0), 0);
    }

    /** With a LOAD of v (1 to 9) AN HOUR, then n (0 to 4) more with LOAD as it is. */
    private static void testingAtTheEdges() {
        SwordSeat x = Check.told("hair plain 0;");
        dueTest(x, 1, 0, 1, 1);
        dueTest(x, 9, 0, 1, 5);
        dueTest(x, 1, 1, 4, 5);
        for (int n = 0; n <= 4; n++) {
            CHECK.due("as by its own load", x.test(3, n, 0), x.falls(n + 1, 1) - x.falls(n + 1, 0));
        }
        x.set(0, 9);
        dueTest(x, 1, 1, 1, 5);
        // By AGE 2 it breaks by 3 tenths in the first HOUR already, by AGE 3 in it, too, but by 4 in the second one.
        x = Check.told("hair plain 2;");
        dueTest(x, 3, 0, 7, 10);
        dueTest(x, 3, 1, 49, 100);
        x.age(0, 3);
        dueTest(x, 3, 1, 21, 50);
        x.age(0, 9);
        dueTest(x, 3, 1, 4, 25);
        dueTest(Check.told(SURE_TO_FALL), 9, 4, 0, 1);
        dueTest(Check.told(SURE_TO_HOLD), 1, 4, 1, 1);
    }

    /** By k tenths or more: just so many are enough; NONE: by none. */
    private static void plaitingByTenths() {
        SwordSeat x = new SwordSeat();
        // One plain HAIR holds by 8 tenths, two by 99 hundredths, three for sure.
        int[] due = {1, 1, 1, 1, 1, 1, 1, 1, 2, 3};
        for (int k = 1; k <= 10; k++) {
            CHECK.due("plait(0, 1, " + k + ")", x.plait(0, 1, k), due[k - 1]);
        }
        CHECK.due("dyed ones are never sure", x.plait(2, 1, 10), -4);
        x.set(0, 9);
        CHECK.due("one sung breaks by 7", x.plait(4, 1, 3), 1);
        CHECK.due("so not by 4 tenths", x.plait(4, 1, 4), 2);
        CHECK.due("five hours are too many", x.plait(2, 5, 1), -4);
        x.set(0, 1);
        CHECK.due("five hours are well", x.plait(4, 5, 10), 1);
    }

    private static void bearingByTenths() {
        SwordSeat x = Check.told("hair plain 0;");
        int[] due = {9, 9, 8, 7, 6, 5, 4, 3, 2, 1};
        for (int k = 1; k <= 10; k++) {
            CHECK.due("bears(1, " + k + ")", x.bears(1, k), due[k - 1]);
        }
        x = Check.told("hair dyed 9;");
        CHECK.due("4 tenths, just", x.bears(1, 4), 1);
        CHECK.due("5 tenths", x.bears(1, 5), -4);
        CHECK.due("five hours", x.bears(5, 1), -4);
        x = Check.told("hair plain 0;hair plain 0;hair plain 0;load 9;");
        CHECK.due("three are sure by 3", x.bears(1, 10), 3);
        CHECK.due("the load that is does not count", x.rule(3), 9);
    }

    /** Likelier than now, the first; NONE: by none. */
    private static void mendingAtTheEdges() {
        SwordSeat x = new SwordSeat();
        for (int what = 0; what <= 2; what++) {
            CHECK.due("no hairs: mend(0, " + what + ")", x.mend(0, what), -4);
            CHECK.due("no hairs: mend(5, " + what + ")", x.mend(5, what), -4);
        }
        x = Check.told("hair plain 0;hair plain 0;");
        for (int n = 0; n <= 5; n++) {
            CHECK.due("new ones: mend(" + n + ")", x.mend(n, 0), -4);
        }
        x = Check.told("hair plain 1;hair plain 1;");
        CHECK.due("in the first hour age 1 is as 0", x.mend(1, 0), -4);
        CHECK.due("in the second it is not", x.mend(2, 0), 0);
        x = Check.told("hair dyed 9;hair dyed 9;hair dyed 9;broken 0;broken 1;broken 2;load 9;");
        CHECK.due("fallen: for no hours", x.mend(0, 0), 0);
        CHECK.dueRatio("it holds then", x.mend(0, 1), x.mend(0, 2), 1, 1);
        CHECK.due("sure to fall all the same", x.mend(1, 0), -4);
        CHECK.due("its numerator", x.mend(1, 1), -4);
        CHECK.due("its denominator", x.mend(1, 2), -4);
        CHECK.due("BAD ahead of NONE", x.mend(1, 3), -1);
        x = Check.told("hair plain 1;hair plain 6;hair plain 6;load 9;");
        CHECK.due("the first of those that help most", x.mend(1, 0), 1);
    }
}
