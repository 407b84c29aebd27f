/** Promises 34 to 40 at their edges, sentence by sentence. */
public final class SheetEdgesTest {
    private static final Check CHECK = new Check();
    private static final int MIN = Integer.MIN_VALUE;
    private static final int MAX = Integer.MAX_VALUE;
    private static final String THREE = "hair plain 0;hair plain 0;hair plain 0;";

    public static void main(String[] args) {
        whetherThereWasAnImage();
        imagesAreApart();
        imageOfNothing();
        backLeavesTheRest();
        sheetsOfEachLength();
        aNewRowIsOf0();
        layingAtTheEdges();
        lowestBits();
        readingToTheLastCell();
        readingBesideTheCells();
        readingWraps();
        eachFault();
        readingHoursThatAreRefused();
        theFirstMet();
        fallenAtTheLastCell();
        upToTheLastHour();
        atMost20();
        tornOfTheLatest();
        countsAtTheEdges();
        CHECK.close();
    }

    /** Whether there was one (1, 0); STATE: there is none. */
    private static void whetherThereWasAnImage() {
        SwordSeat x = new SwordSeat();
        for (int k = 0; k < 2; k++) {
            CHECK.due("back(" + k + ") of none", x.back(k), -2);
            CHECK.due("count(1)", x.count(1), k);
            CHECK.due("keep(" + k + ")", x.keep(k), 0);
            CHECK.due("keep(" + k + ") again", x.keep(k), 1);
            CHECK.due("back(" + k + ")", x.back(k), 0);
            CHECK.due("it is not used up", x.back(k), 0);
        }
        CHECK.due("count(1)", x.count(1), 2);
        CHECK.due("a third one", x.keep(2), -1);
        CHECK.due("back to a third one", x.back(2), -1);
        CHECK.due("a text that is refused leaves them", Check.tell(x, "A"), -10);
        CHECK.due("both are there", x.count(1), 2);
        CHECK.due("a text that is taken does not", x.text(), 0);
        CHECK.due("none is there", x.count(1), 0);
        CHECK.due("back(0) of none then", x.back(0), -2);
        CHECK.due("keep(1) then", x.keep(1), 0);
        CHECK.due("back(0) is not back(1)", x.back(0), -2);
    }

    private static void imagesAreApart() {
        SwordSeat x = Check.told(THREE + "king 1 2;");
        x.keep(0);
        x.hour(1);
        x.hour(2);
        x.set(0, 9);
        x.pay(0, 1, 99);
        x.keep(1);
        CHECK.due("back(0)", x.back(0), 0);
        CHECK.due("load of 0", x.rule(3), 3);
        CHECK.due("life of 0", x.king(0, 1), 2);
        CHECK.due("whole of 0", x.rule(6), 7);
        CHECK.due("ages of 0", x.count(5), 0);
        x.hour(7);
        CHECK.due("back(1)", x.back(1), 2);
        CHECK.due("load of 1", x.rule(3), 9);
        CHECK.due("life of 1", x.king(0, 1), 99);
        CHECK.due("whole of 1", x.rule(6), 4);
        CHECK.due("ages of 1", x.count(5), 6);
        CHECK.due("in its place", x.keep(0), 1);
        CHECK.due("back(0) is the later one", x.back(0), 2);
    }

    private static void imageOfNothing() {
        SwordSeat x = new SwordSeat();
        x.keep(1);
        x.set(0, 7);
        x.set(1, 70);
        CHECK.due("back to nothing", x.back(1), 0);
        CHECK.due("load", x.rule(3), 3);
        CHECK.due("prize", x.rule(4), 9);
        CHECK.due("no hairs", x.rule(0), 0);
    }

    /** IMAGE k is HAIRS, LOAD, KINGS, PRIZE, HOUR: no more than that. */
    private static void backLeavesTheRest() {
        SwordSeat x = Check.told("hair plain 0;law 2 3;");
        x.keep(0);
        x.see(1, 1);
        x.sheet(0, 1, 2);
        x.read(0, 0, 0, 1);
        Check.tell(x, "A");
        x.feed('A');
        x.hour(0);
        CHECK.due("back(0)", x.back(0), 0);
        CHECK.due("seen", x.count(0), 1);
        CHECK.due("images", x.count(1), 1);
        CHECK.due("the tape", x.count(2), 1);
        CHECK.due("the sheet", x.count(3), 2);
        CHECK.due("fault()", x.fault(), 1);
        CHECK.due("torn()", x.torn(), 3);
        CHECK.due("the law", x.law(0, 1), 3);
    }

    /** Rows with 0 to 40 CELLS; BAD: also n above 40; -10 - 4. */
    private static void sheetsOfEachLength() {
        for (int lane = 0; lane < 3; lane++) {
            SwordSeat x = new SwordSeat();
            CHECK.due("nothing at first", x.count(3), -4);
            CHECK.due("-1 cells", x.sheet(0, lane, -1), -14);
            CHECK.due("nothing still", x.count(3), -4);
            CHECK.due("NULL still", x.lay(0, 0, 0), -11);
            for (int n = 0; n <= 40; n++) {
                CHECK.due(n + " cells", x.sheet(0, lane, n), 1);
                CHECK.due("count(3)", x.count(3), n);
                CHECK.due("the last of " + n, x.lay(0, n - 1, 1), n == 0 ? -12 : 1);
                CHECK.due("behind the last of " + n, x.lay(0, n, 1), -12);
            }
            CHECK.due("41 cells", x.sheet(0, lane, 41), -1);
            CHECK.due("the greatest", x.sheet(0, lane, MAX), -1);
            CHECK.due("the least", x.sheet(0, lane, MIN), -14);
            CHECK.due("40 stay", x.count(3), 40);
            CHECK.due("no such sheet ahead of SIZE", x.sheet(4, lane, -1), -1);
        }
        CHECK.due("no such lane ahead of SIZE", new SwordSeat().sheet(0, 3, -1), -1);
        SwordSeat x = new SwordSeat();
        x.sheet(1, 0, 5);
        CHECK.due("count(3) is of sheet 0", x.count(3), -4);
    }

    /** A new row of CELLS 0, in place of that which was. */
    private static void aNewRowIsOf0() {
        for (int lane = 0; lane < 3; lane++) {
            SwordSeat x = Check.told(THREE);
            x.sheet(2, 2, 40);
            for (int i = 0; i < 40; i++) {
                x.lay(2, i, 1);
            }
            x.sheet(2, lane, 0);
            x.sheet(2, lane, 40);
            CHECK.due("the first half", x.read(2, lane, 0, 20), 20);
            CHECK.due("the second half", x.read(2, lane, 20, 20), 20);
            CHECK.due("nothing broke", x.rule(6), 7);
            for (int other = 0; other < 3; other++) {
                x.read(2, other, 0, 1);
                CHECK.due("its lane is the new one", x.torn(), other == lane ? 0 : 3);
            }
        }
    }

    private static void layingAtTheEdges() {
        SwordSeat x = new SwordSeat();
        for (int k = 0; k < 4; k++) {
            CHECK.due("nothing: NULL", x.lay(k, 0, 0), -11);
            CHECK.due("nothing: NULL ahead of INDEX", x.lay(k, -1, 0), -11);
            x.sheet(k, k % 3, 2);
            CHECK.due("the first", x.lay(k, 0, MIN), 1);
            CHECK.due("the last", x.lay(k, 1, MAX), 1);
            CHECK.due("below", x.lay(k, -1, 0), -12);
            CHECK.due("above", x.lay(k, 2, 0), -12);
            CHECK.due("the least", x.lay(k, MIN, 0), -12);
            CHECK.due("the greatest", x.lay(k, MAX, 0), -12);
        }
        CHECK.due("no sheet 4", x.lay(4, 0, 0), -1);
        CHECK.due("no sheet -1", x.lay(-1, 0, 0), -1);
    }

    /** CELL i becomes v (its lowest bits): what is read of v laid on a lane, under three WHOLE HAIRS. */
    private static void lowestBits() {
        int[] values = {0, 7, 8, 127, 128, 129, 255, 256, 257, 263, 264, 32767, 32768, 32769, 65535, 65536, 65537, 65543,
            65544, 0x10100, 0x7fff0000, 0x7fffff00, MAX, MIN, MIN + 1, MIN + 7, -1, -8, -255, -256, -65535, -65536};
        for (int lane = 0; lane < 3; lane++) {
            for (int v : values) {
                SwordSeat x = Check.told(THREE);
                x.sheet(1, lane, 3);
                CHECK.due("lay(1, 1, " + v + ")", x.lay(1, 1, v), 1);
                int cell = lane == 0 ? (byte) v : lane == 1 ? (short) v : v;
                boolean goes = cell >= 0 && cell <= 7;
                CHECK.due("read of " + v + " on lane " + lane, x.read(1, lane, 1, 1), goes ? 1 : -20);
                CHECK.due("whole behind it", x.rule(6), goes ? 7 & ~cell : 7);
                CHECK.due("the cell ahead of it is 0", x.read(1, lane, 0, 1), goes && cell == 7 ? -20 : 1);
            }
        }
    }

    private static void readingToTheLastCell() {
        SwordSeat x = Check.told(THREE);
        x.sheet(3, 2, 40);
        x.lay(3, 39, 4);
        CHECK.due("the last cell", x.read(3, 2, 39, 1), 1);
        CHECK.due("it broke", x.rule(6), 3);
        CHECK.due("no fault", x.torn(), 0);
        x.knot(2, true);
        CHECK.due("one more than there are", x.read(3, 2, 38, 3), 2);
        CHECK.due("INDEX", x.torn(), 2);
        CHECK.due("it broke again", x.rule(6), 3);
        CHECK.due("those ahead went", x.rule(5), 3);
    }

    private static void readingBesideTheCells() {
        for (int lane = 0; lane < 3; lane++) {
            SwordSeat x = Check.told(THREE);
            x.sheet(0, lane, 0);
            CHECK.due("of no cells", x.read(0, lane, 0, 1), 0);
            CHECK.due("INDEX of no cells", x.torn(), 2);
            x.sheet(0, lane, 3);
            for (int f : new int[] {-1, -2, -20, 3, 4, 40, 1000, MIN, MIN + 1, MAX, MAX - 1}) {
                x.read(0, lane, 0, 1);
                int hour = x.rule(5);
                CHECK.due("from " + f, x.read(0, lane, f, 20), 0);
                CHECK.due("INDEX from " + f, x.torn(), 2);
                CHECK.due("none went from " + f, x.rule(5), hour);
            }
        }
    }

    /** A place that would come to be in the row by wrap-around is met only behind one that is not in it. */
    private static void readingWraps() {
        SwordSeat x = Check.told(THREE);
        x.sheet(0, 0, 40);
        for (int n = 0; n <= 20; n++) {
            CHECK.due("from the greatest, " + n, x.read(0, 0, MAX, n), 0);
            CHECK.due("its fault", x.torn(), n == 0 ? 0 : 2);
            CHECK.due("from -1, " + n, x.read(0, 0, -1, n), 0);
            CHECK.due("its fault", x.torn(), n == 0 ? 0 : 2);
        }
        CHECK.due("no hour went", x.rule(5), 0);
    }

    /** 1 NULL (nothing), 2 INDEX, 3 CAST (another lane): nothing has no lane, another lane has no CELLS. */
    private static void eachFault() {
        SwordSeat x = Check.told(THREE);
        for (int taken = 0; taken < 3; taken++) {
            for (int made = 0; made < 3; made++) {
                x.sheet(0, made, 1);
                for (int f = -1; f <= 1; f++) {
                    boolean goes = made == taken && f == 0;
                    CHECK.due("lane " + made + " as " + taken + " at " + f, x.read(0, taken, f, 1), goes ? 1 : 0);
                    CHECK.due("its fault", x.torn(), goes ? 0 : made == taken ? 2 : 3);
                }
            }
            for (int f = -1; f <= 1; f++) {
                CHECK.due("nothing at " + f, x.read(1, taken, f, 1), 0);
                CHECK.due("NULL", x.torn(), 1);
            }
        }
    }

    private static SwordSeat withCells(String text, int... cells) {
        SwordSeat x = Check.told(text);
        x.sheet(0, 0, cells.length);
        for (int i = 0; i < cells.length; i++) {
            x.lay(0, i, cells[i]);
        }
        return x;
    }

    private static void dueNoneWent(SwordSeat x, int hour) {
        CHECK.due("none went", x.rule(5), hour);
        CHECK.due("nothing broke", x.rule(6), (1 << x.rule(0)) - 1);
        CHECK.due("nothing grew older", x.count(5), Math.min(9, hour) * x.rule(0));
    }

    /** -20 less i: the i-th is refused by hour() (in whichever way): then none went. */
    private static void readingHoursThatAreRefused() {
        for (int at = 0; at < 20; at++) {
            int[] cells = new int[20];
            cells[at] = 8;
            SwordSeat x = withCells(THREE, cells);
            CHECK.due("BAD at " + at, x.read(0, 0, 0, 20), -20 - at);
            dueNoneWent(x, 0);
            CHECK.due("up to it", x.read(0, 0, 0, at), at);
        }
        SwordSeat x = withCells(THREE, 1, 1);
        CHECK.due("one that is broken by the one ahead", x.read(0, 0, 0, 2), -21);
        dueNoneWent(x, 0);
        x = withCells(THREE, 7, 0);
        CHECK.due("STATE", x.read(0, 0, 0, 2), -21);
        dueNoneWent(x, 0);
        x = withCells(THREE, -1);
        CHECK.due("below 0", x.read(0, 0, 0, 1), -20);
        dueNoneWent(x, 0);
        x = withCells("", 0);
        CHECK.due("no hairs", x.read(0, 0, 0, 1), -20);
        CHECK.due("torn() of none", x.torn(), 0);
    }

    /** The first met: BAD, then what comes first on the SHEET. */
    private static void theFirstMet() {
        SwordSeat x = withCells(THREE, 0, 8);
        CHECK.due("hour() ahead of INDEX", x.read(0, 0, 0, 3), -21);
        CHECK.due("no fault of it", x.torn(), 0);
        CHECK.due("INDEX alone", x.read(0, 0, 2, 3), 0);
        CHECK.due("its fault", x.torn(), 2);
        CHECK.due("CAST ahead of hour()", x.read(0, 1, 1, 1), 0);
        CHECK.due("its fault", x.torn(), 3);
        CHECK.due("BAD ahead of NULL", x.read(1, 0, 0, 21), -1);
        CHECK.due("BAD ahead of CAST", x.read(0, 1, 0, -1), -1);
        CHECK.due("BAD of lane ahead of CAST", x.read(0, 3, 0, 1), -1);
        CHECK.due("the fault stays", x.torn(), 3);
        x = new SwordSeat();
        CHECK.due("NULL ahead of hour()", x.read(0, 0, 0, 1), 0);
        CHECK.due("its fault", x.torn(), 1);
    }

    /** What the machine refuses is not asked of hour(): a CELL that there is not is found under a FALLEN sword, too. */
    private static void fallenAtTheLastCell() {
        SwordSeat x = withCells("hair plain 0;", 1);
        CHECK.due("it falls, then there is no cell", x.read(0, 0, 0, 2), 1);
        CHECK.due("INDEX", x.torn(), 2);
        CHECK.due("fallen", x.rule(7), 1);
        CHECK.due("no cell", x.read(0, 0, 1, 1), 0);
        CHECK.due("a cell", x.read(0, 0, 0, 1), -20);
        CHECK.due("no hours", x.read(0, 0, 0, 0), 0);
    }

    /** hour() refuses the one by which HOUR would be 100. */
    private static void upToTheLastHour() {
        SwordSeat x = withCells(THREE, new int[20]);
        for (int i = 0; i < 4; i++) {
            x.read(0, 0, 0, 20);
        }
        CHECK.due("20 of 19", x.read(0, 0, 0, 20), -39);
        dueNoneWent(x, 80);
        CHECK.due("19 of 19", x.read(0, 0, 0, 19), 19);
        CHECK.due("hour", x.rule(5), 99);
        CHECK.due("none of 0", x.read(0, 0, 0, 0), 0);
        CHECK.due("one of 0", x.read(0, 0, 0, 1), -20);
        CHECK.due("INDEX all the same", x.read(0, 0, 20, 1), 0);
        dueNoneWent(x, 99);
    }

    private static void atMost20() {
        SwordSeat x = withCells(THREE, new int[40]);
        CHECK.due("20", x.read(0, 0, 20, 20), 20);
        CHECK.due("21", x.read(0, 0, 0, 21), -1);
        CHECK.due("20 went", x.rule(5), 20);
        CHECK.due("-1", x.read(0, 0, 0, -1), -1);
        CHECK.due("0", x.read(0, 0, 0, 0), 0);
        CHECK.due("20 still", x.rule(5), 20);
    }

    /** The FAULT of the latest read() that came to an end; 0. */
    private static void tornOfTheLatest() {
        SwordSeat x = Check.told(THREE);
        CHECK.due("at first", x.torn(), 0);
        x.sheet(0, 0, 1);
        x.lay(0, 0, 8);
        int[][] reads = {{1, 0, 0}, {0, 0, 1}, {0, 1, 0}};
        for (int[] r : reads) {
            x.read(r[0], r[1], r[2], 1);
            int fault = x.torn();
            CHECK.holds("a fault", fault != 0);
            x.read(0, 0, 0, 1);
            x.read(4, 0, 0, 1);
            x.read(0, 0, 0, 21);
            x.lay(2, 0, 0);
            x.lay(0, 1, 0);
            x.sheet(3, 0, -1);
            x.hour(8);
            x.text();
            Check.tell(x, THREE);
            CHECK.due("it stays", x.torn(), fault);
            CHECK.due("a read() of no hours", x.read(0, 0, 0, 0), 0);
            CHECK.due("no fault then", x.torn(), 0);
        }
    }

    private static void countsAtTheEdges() {
        SwordSeat x = new SwordSeat();
        int[] due = {0, 0, 0, -4, 0, 0};
        for (int what = 0; what < due.length; what++) {
            CHECK.due("new: count(" + what + ")", x.count(what), due[what]);
        }
        Check.tell(x, "hair plain 9;hair plain 9;hair plain 9;broken 1;");
        CHECK.due("all ages, the broken one's too", x.count(5), 27);
        CHECK.due("whole", x.count(4), 2);
        x.hour(0);
        CHECK.due("9 at most", x.count(5), 27);
        x.hour(5);
        CHECK.due("fallen", x.count(4), 0);
        Check.feedAll(x, " ".repeat(160));
        x.feed(' ');
        CHECK.due("160 bytes", x.count(2), 160);
        for (int i = 0; i < 7; i++) {
            x.see(0, 0);
        }
        CHECK.due("6 seen", x.count(0), 6);
        x.sheet(0, 0, 0);
        CHECK.due("no cells are not nothing", x.count(3), 0);
    }
}
