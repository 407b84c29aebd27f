/** Promises 25 to 33 at their edges, sentence by sentence. */
public final class KingEdgesTest {
    private static final Check CHECK = new Check();
    private static final String SURE_TO_HOLD = "hair sung 0;load 1;";
    private static final String SURE_TO_FALL = "hair dyed 9;load 9;";

    public static void main(String[] args) {
        duelsOfNoHours();
        duelsThatHold();
        duelsThatFall();
        duelsByAMeanOf0();
        duelsOfTwo();
        crownsAtTheEdges();
        lawsBehind5Hours();
        lawsOfNoWorth();
        seenAtTheEdges();
        likelyAtTheEdges();
        guessesAtTheEdges();
        seedsWrapAround();
        driftsAtTheEdges();
        CHECK.close();
    }

    private static void dueDuel(SwordSeat x, int a, int b, int n, long... due) {
        for (int what = 0; what < due.length; what++) {
            CHECK.due("duel(" + a + ", " + b + ", " + n + ", " + what + ")", x.duel(a, b, n, what), due[what]);
        }
    }

    /** Behind n HOURS it is over, nobody has PRIZE: also behind 0. */
    private static void duelsOfNoHours() {
        for (String text : new String[] {SURE_TO_HOLD, SURE_TO_FALL, ""}) {
            dueDuel(Check.told(text + "king 9 0;king 9 0;prize 99;"), 0, 1, 0, 0, 1, 0, 1, 0);
        }
    }

    private static void duelsThatHold() {
        SwordSeat x = Check.told(SURE_TO_HOLD + "king 9 99;king 1 99;king 0 0;prize 50;");
        long[][] due = {{0, 0}, {9, 0}, {9, 1}, {18, 1}, {18, 2}, {27, 2}};
        for (int n = 1; n <= 5; n++) {
            dueDuel(x, 0, 1, n, due[n][0], 1, due[n][1], 1, 1);
        }
        // To sit for nothing is not more than 0: he leaves, and the other one has the prize.
        dueDuel(x, 2, 0, 1, 0, 1, 50, 1, 0);
        dueDuel(x, 0, 2, 1, 9, 1, 0, 1, 1);
        dueDuel(x, 0, 2, 2, 59, 1, 0, 1, 1);
        // He still leaves when his own HOUR has no hope behind it, however many HOURS there are.
        dueDuel(x, 2, 0, 5, 0, 1, 50, 1, 0);
    }

    /** Falls the sword on one, the other one has PRIZE, too. He does not sit under a FALLEN sword. */
    private static void duelsThatFall() {
        SwordSeat x = Check.told(SURE_TO_FALL + "king 9 99;king 9 0;prize 99;");
        for (int n = 1; n <= 5; n++) {
            dueDuel(x, 0, 1, n, 0, 1, 99, 1, 0);
            dueDuel(x, 1, 0, n, 0, 1, 99, 1, 0);
        }
        x.set(1, 0);
        dueDuel(x, 0, 1, 5, 0, 1, 0, 1, 0);
        x.set(1, 99);
        x.knot(0, false);
        for (int n = 1; n <= 5; n++) {
            dueDuel(x, 0, 1, n, 0, 1, 99, 1, 0);
            dueDuel(x, 1, 0, n, 0, 1, 99, 1, 0);
        }
        dueDuel(x, 1, 0, 0, 0, 1, 0, 1, 0);
    }

    /** More than 0, else he leaves. One plain HAIR breaks by 2 tenths. */
    private static void duelsByAMeanOf0() {
        SwordSeat x = Check.told("hair plain 0;king 1 4;king 1 3;king 0 1;prize 10;");
        dueDuel(x, 0, 1, 1, 0, 1, 10, 1, 0);
        dueDuel(x, 1, 0, 1, 1, 5, 2, 1, 1);
        // King 0 leaves in the second HOUR, so king 1 has .8 by (1 + 10) - .2 by 3, king 0 .2 by 10.
        dueDuel(x, 1, 0, 2, 41, 5, 2, 1, 1);
        // By the hope that king 1 falls in his HOUR: .8 by (1 + .2 by 10) - .2 by 4.
        dueDuel(x, 0, 1, 2, 8, 5, 54, 25, 1);
        x.set(1, 0);
        dueDuel(x, 0, 1, 2, 0, 1, 0, 1, 0);
    }

    /** BAD (also alike). */
    private static void duelsOfTwo() {
        SwordSeat x = Check.told("hair plain 0;king 1 1;king 1 1;king 1 1;king 1 1;");
        for (int a = -1; a <= 4; a++) {
            for (int b = -1; b <= 4; b++) {
                boolean bad = a < 0 || a > 3 || b < 0 || b > 3 || a == b;
                CHECK.due("duel(" + a + ", " + b + ", 1, 3)", x.duel(a, b, 1, 3), bad ? -1 : 5);
            }
        }
        CHECK.due("one king alone", Check.told("king 1 1;").duel(0, 0, 1, 0), -1);
        CHECK.due("none", new SwordSeat().duel(0, 1, 1, 0), -1);
    }

    /** Of several the first; STATE: there are none. */
    private static void crownsAtTheEdges() {
        for (int n = 0; n <= 5; n++) {
            for (int what = 0; what <= 2; what++) {
                CHECK.due("no kings: crown(" + n + ", " + what + ")", new SwordSeat().crown(n, what), -2);
            }
        }
        CHECK.due("BAD ahead of STATE, hours", new SwordSeat().crown(-1, 0), -1);
        CHECK.due("BAD ahead of STATE, what", new SwordSeat().crown(0, 3), -1);
        SwordSeat x = Check.told("king 1 1;king 9 0;");
        CHECK.due("under a fallen sword the first", x.crown(5, 0), 0);
        CHECK.dueRatio("for nothing", x.crown(5, 1), x.crown(5, 2), 0, 1);
        x = Check.told(SURE_TO_HOLD + "king 1 1;king 2 1;king 2 1;king 9 1;");
        CHECK.due("the last one", x.crown(5, 0), 3);
        CHECK.dueRatio("five hours", x.crown(5, 1), x.crown(5, 2), 45, 1);
        x.pay(3, 0, 2);
        CHECK.due("the first of three", x.crown(1, 0), 1);
        CHECK.due("of no hours the first of all", x.crown(0, 0), 0);
    }

    /** Each is of its WORTH, if it holds behind its last HOUR; behind 5 HOURS none is. */
    private static void lawsBehind5Hours() {
        SwordSeat x = Check.told(SURE_TO_HOLD + "law 5 9;law 1 1;law 4 2;");
        // By order: 5; 1; 5, 6; 4; 5, 9; 1, 5; 5, 6, 10.
        long[] due = {0, 9, 1, 9, 2, 9, 3, 9};
        for (int set = 0; set < 8; set++) {
            CHECK.dueRatio("reads(" + set + ")", x.reads(set, 0), x.reads(set, 1), due[set], 1);
        }
        CHECK.due("reads(8)", x.reads(8, 0), -1);
        CHECK.due("reads(-1)", x.reads(-1, 0), -1);
        CHECK.due("the least of several", x.laws(0), 1);
        CHECK.dueRatio("that mean", x.laws(1), x.laws(2), 9, 1);
        x = Check.told(SURE_TO_HOLD + "law 3 4;law 2 4;law 5 8;");
        CHECK.due("3 ahead of 4", x.laws(0), 3);
        CHECK.dueRatio("that mean", x.laws(1), x.laws(2), 8, 1);
        x = Check.told("law 1 9;law 1 9;");
        CHECK.dueRatio("under a fallen sword", x.reads(3, 0), x.reads(3, 1), 0, 1);
        CHECK.due("none is best", x.laws(0), 0);
        CHECK.due("sets of two laws", x.reads(4, 0), -1);
        x = Check.told(SURE_TO_FALL + "law 1 9;");
        CHECK.dueRatio("it falls in the last hour", x.reads(1, 0), x.reads(1, 1), 0, 1);
    }

    private static void lawsOfNoWorth() {
        SwordSeat x = Check.told(SURE_TO_HOLD + "law 1 0;law 1 0;law 1 3;");
        CHECK.due("the least by bits", x.laws(0), 4);
        x = Check.told(SURE_TO_HOLD + "law 1 0;");
        CHECK.due("nothing is as good", x.laws(0), 0);
        CHECK.dueRatio("0 by 1", x.laws(1), x.laws(2), 0, 1);
        for (int what = 0; what <= 2; what++) {
            CHECK.due("no laws: laws(" + what + ")", new SwordSeat().laws(what), what == 2 ? 1 : 0);
        }
        CHECK.dueRatio("the set of none", new SwordSeat().reads(0, 0), new SwordSeat().reads(0, 1), 0, 1);
    }

    /** SEEN (6): FULL; SEEN are the first n alone. */
    private static void seenAtTheEdges() {
        SwordSeat x = new SwordSeat();
        for (int i = 1; i <= 6; i++) {
            CHECK.due("see number " + i, x.see(0, 1), i);
        }
        CHECK.due("see number 7", x.see(5, 3), -3);
        CHECK.due("BAD ahead of FULL, hours", x.see(6, 3), -1);
        CHECK.due("BAD ahead of FULL, hairs", x.see(5, -1), -1);
        CHECK.due("forget(7) of 6", x.forget(7), -1);
        CHECK.due("forget(6) of 6", x.forget(6), 6);
        CHECK.due("FULL still", x.see(0, 1), -3);
        CHECK.due("forget(5) of 6", x.forget(5), 6);
        CHECK.due("room for one", x.see(0, 2), 6);
        CHECK.due("it is SEEN", x.guess(0), -4);
        CHECK.due("forget it", x.forget(5), 6);
        CHECK.due("the first ones are SEEN", x.guess(0), 1);
        CHECK.due("forget all", x.forget(0), 5);
        CHECK.due("none is there", x.forget(0), 0);
        CHECK.due("none can be kept", x.forget(1), -1);
        CHECK.due("from 1 again", x.see(0, 3), 1);
        CHECK.due("nothing of the old ones", x.guess(0), 3);
    }

    private static void dueLikely(SwordSeat x, int kind, int m, long top, long bottom) {
        CHECK.dueRatio("likely(" + kind + ", " + m + ")", x.likely(kind, m, 0), x.likely(kind, m, 1), top, bottom);
    }

    private static void likelyAtTheEdges() {
        SwordSeat x = new SwordSeat();
        for (int kind = 0; kind <= 4; kind++) {
            for (int m = 1; m <= 3; m++) {
                dueLikely(x, kind, m, 1, 1);
            }
        }
        x.see(0, 3);
        dueLikely(x, 2, 3, 1, 1);
        dueLikely(x, 2, 2, 0, 1);
        x.forget(0);
        x.see(0, 0);
        dueLikely(x, 2, 1, 0, 1);
        x.forget(0);
        x.see(1, 1);
        dueLikely(x, 0, 1, 4, 5);
        x.see(1, 1);
        dueLikely(x, 0, 1, 4, 5);
        x.see(1, 0);
        dueLikely(x, 0, 1, 0, 1);
        x.forget(0);
        x.see(5, 1);
        dueLikely(x, 0, 1, 588, 3125);
        x.see(4, 0);
        dueLikely(x, 0, 1, 0, 1);
        x.forget(0);
        x.see(4, 0);
        x.see(5, 0);
        dueLikely(x, 0, 1, 429, 625);
    }

    /** Of several the least; NONE: by none could it be. */
    private static void guessesAtTheEdges() {
        SwordSeat x = new SwordSeat();
        CHECK.due("nothing seen: the least", x.guess(0), 1);
        CHECK.dueRatio("nothing seen: sure", x.guess(1), x.guess(2), 1, 1);
        for (int m = 1; m <= 3; m++) {
            x.forget(0);
            x.see(0, m);
            CHECK.due(m + " ahead of all: the least kind", x.guess(0), m);
        }
        x.forget(0);
        x.see(0, 0);
        for (int what = 0; what <= 2; what++) {
            CHECK.due("none ahead of all: guess(" + what + ")", x.guess(what), -4);
        }
        CHECK.due("BAD ahead of NONE", x.guess(3), -1);
        CHECK.due("BAD ahead of NONE, below", x.guess(-1), -1);
        x.forget(0);
        x.set(0, 1);
        x.see(5, 1);
        CHECK.due("one sung is sure", x.guess(0), 41);
        CHECK.dueRatio("sure", x.guess(1), x.guess(2), 1, 1);
        x.forget(0);
        x.set(0, 9);
        x.see(1, 0);
        CHECK.due("one dyed is sure to break", x.guess(0), 21);
        CHECK.dueRatio("so sure", x.guess(1), x.guess(2), 1, 1);
    }

    /** The seed becomes seed times 1103515245 and 12345, as an int does: bits 16 to 30 of it modulo 10. */
    private static void seedsWrapAround() {
        SwordSeat x = Check.told("hair plain 0;");
        int[] seeds = {0, 1, -1, 2, -2, 65535, 65536, -65536, 1 << 30, Integer.MIN_VALUE, Integer.MIN_VALUE + 1,
            Integer.MAX_VALUE, Integer.MAX_VALUE - 1, 1103515245, -12345, 0x5a5a5a5a, 0xa5a5a5a5};
        for (int seed : seeds) {
            for (int load = 1; load <= 9; load++) {
                x.set(0, load);
                long next = Math.floorMod((long) seed * 1103515245L + 12345L, 1L << 32);
                boolean breaks = next / 65536 % 32768 % 10 < load - 1;
                CHECK.due("drift(" + seed + ", 1, 0), load " + load, x.drift(seed, 1, 0), breaks ? 0 : 1);
                CHECK.due("drift(" + seed + ", 1, 1), load " + load, x.drift(seed, 1, 1), breaks ? 0 : 1);
            }
        }
    }

    private static void driftsAtTheEdges() {
        SwordSeat holds = Check.told(SURE_TO_HOLD);
        SwordSeat falls = Check.told("hair dyed 9;hair dyed 9;hair dyed 9;load 9;broken 1;broken 2;");
        SwordSeat fallen = Check.told("hair plain 0;broken 0;");
        for (int seed = -50; seed <= 50; seed++) {
            CHECK.due("breaks of 0 never break", holds.drift(seed, 8, 0), 8);
            CHECK.due("whole then", holds.drift(seed, 8, 1), 1);
            CHECK.due("breaks of 10 break at once", falls.drift(seed, 60, 0), 0);
            CHECK.due("none then", falls.drift(seed, 60, 1), 0);
            CHECK.due("fallen", fallen.drift(seed, 1, 0), 0);
            CHECK.due("fallen, whole", fallen.drift(seed, 1, 1), 0);
            CHECK.due("no hairs", new SwordSeat().drift(seed, 60, 1), 0);
        }
        SwordSeat x = Check.told("hair sung 9;hair sung 9;hair sung 9;load 1;");
        int longest = 0;
        for (int seed = 0; seed < 200; seed++) {
            longest = Math.max(longest, x.drift(seed, 60, 0));
        }
        CHECK.due("60 hours can be held", longest, 60);
    }
}
