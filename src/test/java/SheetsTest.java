/** Promises 34 to 40: images, sheets, counts. */
public final class SheetsTest {
    private static final Check CHECK = new Check();

    public static void main(String[] args) {
        images();
        making();
        laying();
        reading();
        readingRefusedByHour();
        readingRefusedByTheMachine();
        readingNothing();
        readingWrong();
        counting();
        CHECK.close();
    }

    private static void images() {
        SwordSeat x = Check.told("hair plain 1;hair damp 2;king 3 4;law 1 2;load 5;prize 6;");
        CHECK.due("keep(2)", x.keep(2), -1);
        CHECK.due("keep(-1)", x.keep(-1), -1);
        CHECK.due("back(2)", x.back(2), -1);
        CHECK.due("back(-1)", x.back(-1), -1);
        CHECK.due("back(0) of none", x.back(0), -2);
        CHECK.due("keep(0)", x.keep(0), 0);
        CHECK.due("keep(0) again", x.keep(0), 1);
        x.hour(1);
        CHECK.due("keep(1)", x.keep(1), 0);
        x.set(0, 9);
        x.set(1, 99);
        x.pay(0, 0, 0);
        x.pay(0, 1, 0);
        x.dye(1, 4);
        x.see(1, 1);
        CHECK.due("back(0)", x.back(0), 0);
        int[] rules = {2, 1, 1, 5, 6, 0, 3, 0};
        for (int what = 0; what < rules.length; what++) {
            CHECK.due("back: rule(" + what + ")", x.rule(what), rules[what]);
        }
        CHECK.due("its age", x.hair(0, 1), 1);
        CHECK.due("its kind", x.hair(1, 0), 1);
        CHECK.due("worth", x.king(0, 0), 3);
        CHECK.due("life", x.king(0, 1), 4);
        CHECK.due("what is seen stays", x.count(0), 1);
        CHECK.due("back(1)", x.back(1), 1);
        CHECK.due("broken there", x.rule(6), 2);
        CHECK.due("an image stays", x.back(0), 0);
        x.hour(3);
        CHECK.due("it is not the same thing", x.back(0), 0);
        CHECK.due("whole", x.rule(6), 3);
    }

    private static void making() {
        SwordSeat x = new SwordSeat();
        CHECK.due("sheet(4, 0, 1)", x.sheet(4, 0, 1), -1);
        CHECK.due("sheet(-1, 0, 1)", x.sheet(-1, 0, 1), -1);
        CHECK.due("sheet(0, 3, 1)", x.sheet(0, 3, 1), -1);
        CHECK.due("sheet(0, -1, 1)", x.sheet(0, -1, 1), -1);
        CHECK.due("sheet(0, 0, 41)", x.sheet(0, 0, 41), -1);
        CHECK.due("sheet(0, 0, -1)", x.sheet(0, 0, -1), -14);
        CHECK.due("sheet(0, 0, min)", x.sheet(0, 0, Integer.MIN_VALUE), -14);
        CHECK.due("sheet(0, 3, -1): the wrong lane first", x.sheet(0, 3, -1), -1);
        CHECK.due("nothing still", x.count(3), -4);
        CHECK.due("sheet(0, 0, 0)", x.sheet(0, 0, 0), 1);
        CHECK.due("no cells", x.count(3), 0);
        CHECK.due("sheet(0, 2, 40)", x.sheet(0, 2, 40), 1);
        CHECK.due("cells", x.count(3), 40);
        CHECK.due("refused", x.sheet(0, 0, -5), -14);
        CHECK.due("it stays", x.count(3), 40);
        CHECK.due("torn() is of read() alone", x.torn(), 0);
    }

    private static void laying() {
        SwordSeat x = new SwordSeat();
        CHECK.due("lay(4, 0, 0)", x.lay(4, 0, 0), -1);
        CHECK.due("lay(-1, 0, 0)", x.lay(-1, 0, 0), -1);
        CHECK.due("lay on nothing", x.lay(0, 9, 0), -11);
        x.sheet(0, 0, 3);
        CHECK.due("lay(0, 2, 1)", x.lay(0, 2, 1), 1);
        CHECK.due("lay(0, 3, 1)", x.lay(0, 3, 1), -12);
        CHECK.due("lay(0, -1, 1)", x.lay(0, -1, 1), -12);
        CHECK.due("lay(0, min, 1)", x.lay(0, Integer.MIN_VALUE, 1), -12);
        x.sheet(0, 0, 0);
        CHECK.due("lay on an empty one", x.lay(0, 0, 1), -12);
    }

    private static void reading() {
        SwordSeat x = Check.told("hair plain 0;hair plain 0;hair plain 0;");
        for (int lane = 0; lane < 3; lane++) {
            x.sheet(lane, lane, 4);
            x.lay(lane, 1, 0x7fff0000 + 0x100 * lane);
            x.lay(lane, 2, 0x10004);
        }
        x.keep(0);
        CHECK.due("bytes: their lowest bits", x.read(0, 0, 0, 4), 4);
        CHECK.due("hours went", x.rule(5), 4);
        CHECK.due("what broke", x.rule(6), 3);
        x.back(0);
        CHECK.due("shorts: 256 is no hair", x.read(1, 1, 0, 4), -21);
        CHECK.due("shorts: their lowest bits", x.read(1, 1, 2, 2), 2);
        CHECK.due("what broke of shorts", x.rule(6), 3);
        x.back(0);
        CHECK.due("ints: all bits", x.read(2, 2, 2, 2), -20);
        CHECK.due("none went", x.rule(5), 0);
        CHECK.due("no hours at all", x.read(2, 2, 99, 0), 0);
        CHECK.due("nothing is torn", x.torn(), 0);
        x.lay(0, 0, 255);
        CHECK.due("a byte below 0", x.read(0, 0, 0, 1), -20);
        x.sheet(3, 2, 40);
        CHECK.due("20 hours", x.read(3, 2, 20, 20), 20);
        CHECK.due("they went", x.rule(5), 20);
        x.sheet(0, 1, 4);
        CHECK.due("a new row has 0", x.read(0, 1, 0, 4), 4);
        CHECK.due("nothing broke", x.rule(6), 7);
    }

    private static void readingRefusedByHour() {
        SwordSeat x = Check.told("hair plain 0;");
        x.sheet(0, 0, 3);
        x.lay(0, 1, 1);
        CHECK.due("fallen at the third", x.read(0, 0, 0, 3), -22);
        CHECK.due("none went", x.rule(5), 0);
        CHECK.due("nothing broke", x.rule(6), 1);
        CHECK.due("ahead of what the machine finds", x.read(0, 0, 1, 3), -21);
        CHECK.due("it has come to no end", x.torn(), 0);
        for (int i = 0; i < 98; i++) {
            x.hour(0);
        }
        CHECK.due("hour would be 100", x.read(0, 0, 0, 2), -21);
        CHECK.due("hour", x.rule(5), 98);
        CHECK.due("the last one", x.read(0, 0, 0, 1), 1);
    }

    private static void readingRefusedByTheMachine() {
        SwordSeat x = Check.told("hair plain 0;hair plain 0;");
        x.sheet(1, 1, 3);
        x.lay(1, 2, 2);
        CHECK.due("behind the last cell", x.read(1, 1, 1, 3), 2);
        CHECK.due("INDEX", x.torn(), 2);
        CHECK.due("those ahead went", x.rule(5), 2);
        CHECK.due("and broke", x.rule(6), 1);
        CHECK.due("one refused by hour()", x.read(1, 1, 2, 1), -20);
        CHECK.due("torn() stays", x.torn(), 2);
        CHECK.due("a wrong one", x.read(4, 1, 2, 1), -1);
        CHECK.due("torn() stays then, too", x.torn(), 2);
        CHECK.due("another lane", x.read(1, 2, 0, 1), 0);
        CHECK.due("CAST", x.torn(), 3);
        CHECK.due("another lane ahead of the index", x.read(1, 0, 77, 1), 0);
        CHECK.due("CAST again", x.torn(), 3);
        CHECK.due("below the first cell", x.read(1, 1, -1, 1), 0);
        CHECK.due("INDEX again", x.torn(), 2);
        CHECK.due("least", x.read(1, 1, Integer.MIN_VALUE, 20), 0);
        CHECK.due("greatest", x.read(1, 1, Integer.MAX_VALUE, 20), 0);
        CHECK.due("nothing", x.read(0, 2, 0, 1), 0);
        CHECK.due("NULL", x.torn(), 1);
        CHECK.due("nothing ahead of the index", x.read(0, 2, -1, 1), 0);
        CHECK.due("NULL again", x.torn(), 1);
        CHECK.due("one that is well", x.read(1, 1, 0, 1), 1);
        CHECK.due("no fault", x.torn(), 0);
    }

    /** Of 0 HOURS none is refused, whatever the SHEET is; the read() comes to an end all the same. */
    private static void readingNothing() {
        SwordSeat x = new SwordSeat();
        CHECK.due("no hours of nothing", x.read(0, 0, 0, 0), 0);
        CHECK.due("no fault", x.torn(), 0);
        for (int made = 0; made < 3; made++) {
            for (int taken = 0; taken < 3; taken++) {
                x.sheet(0, made, 1);
                x.read(3, 0, 0, 1);
                CHECK.due("torn before", x.torn(), 1);
                CHECK.due("no hours of lane " + made + " as " + taken, x.read(0, taken, 0, 0), 0);
                CHECK.due("no fault", x.torn(), 0);
                CHECK.due("no hours of no cell", x.read(0, taken, 9, 0), 0);
                CHECK.due("no fault either", x.torn(), 0);
            }
        }
        CHECK.due("an hour of another lane", x.read(0, 1, 0, 1), 0);
        CHECK.due("CAST", x.torn(), 3);
        CHECK.due("no hours of it", x.read(0, 1, 0, 0), 0);
        CHECK.due("no fault any more", x.torn(), 0);
    }

    private static void readingWrong() {
        SwordSeat x = new SwordSeat();
        CHECK.due("read(4, 0, 0, 0)", x.read(4, 0, 0, 0), -1);
        CHECK.due("read(-1, 0, 0, 0)", x.read(-1, 0, 0, 0), -1);
        CHECK.due("read(0, 3, 0, 0)", x.read(0, 3, 0, 0), -1);
        CHECK.due("read(0, -1, 0, 0)", x.read(0, -1, 0, 0), -1);
        CHECK.due("read(0, 0, 0, 21)", x.read(0, 0, 0, 21), -1);
        CHECK.due("read(0, 0, 0, -1)", x.read(0, 0, 0, -1), -1);
        x.sheet(0, 0, 1);
        CHECK.due("fallen", x.read(0, 0, 0, 1), -20);
    }

    private static void counting() {
        SwordSeat x = Check.told("hair plain 3;hair damp 4;hair dyed 9;broken 2;");
        x.see(0, 1);
        x.see(0, 2);
        x.keep(1);
        x.feed(1);
        x.sheet(0, 1, 7);
        int[] due = {2, 1, 1, 7, 2, 16};
        for (int what = 0; what < due.length; what++) {
            CHECK.due("count(" + what + ")", x.count(what), due[what]);
        }
        x.keep(0);
        CHECK.due("both images", x.count(1), 2);
        CHECK.due("count(6)", x.count(6), -1);
        CHECK.due("count(-1)", x.count(-1), -1);
    }
}
