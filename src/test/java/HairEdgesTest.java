/** Promises 6 to 15 at their edges, sentence by sentence. */
public final class HairEdgesTest {
    private static final Check CHECK = new Check();

    public static void main(String[] args) {
        fallenOrNot();
        breaksAtLeast0();
        breaksAtMost10();
        strainIsRoundedUp();
        breaksOfEach();
        settingAtTheEdges();
        settingTouchesOneThing();
        knottingTheLast();
        knottingByKind();
        payingAtTheEdges();
        anHourByEachSet();
        ageIs9AtMost();
        noHourUnderAFallenSword();
        the100thHour();
        theFirstThatFits();
        CHECK.close();
    }

    /** FALLEN is the sword, if no HAIR is WHOLE (also where there are none). */
    private static void fallenOrNot() {
        SwordSeat x = new SwordSeat();
        CHECK.due("no hairs", x.rule(7), 1);
        x = Check.told("king 1 1;");
        CHECK.due("a king, no hairs", x.rule(7), 1);
        x = Check.told("hair plain 0;");
        CHECK.due("one", x.rule(7), 0);
        x = Check.told("hair plain 0;broken 0;");
        CHECK.due("one, broken", x.rule(7), 1);
        CHECK.due("its bits", x.rule(6), 0);
        x = Check.told("hair plain 0;hair plain 0;hair plain 0;broken 0;broken 1;");
        CHECK.due("the last one holds", x.rule(7), 0);
        CHECK.due("its bits", x.rule(6), 4);
        x.knot(2, false);
        CHECK.due("the last one is cut", x.rule(7), 1);
        CHECK.due("there are three still", x.rule(0), 3);
    }

    private static void dueBreaks(String text, int i, int due) {
        CHECK.due("breaks of hair " + i + " of '" + text + "'", Check.told(text).hair(i, 3), due);
    }

    /** 0 at least. */
    private static void breaksAtLeast0() {
        dueBreaks("hair sung 0;load 1;", 0, 0);
        dueBreaks("hair sung 3;load 1;", 0, 0);
        dueBreaks("hair sung 4;load 1;", 0, 0);
        dueBreaks("hair sung 8;load 1;", 0, 1);
        dueBreaks("hair sung 0;load 2;", 0, 0);
        dueBreaks("hair sung 0;load 3;", 0, 1);
        dueBreaks("hair doubled 3;load 1;", 0, 0);
        dueBreaks("hair doubled 4;load 1;", 0, 1);
        dueBreaks("hair plain 1;load 1;", 0, 0);
        dueBreaks("hair plain 2;load 1;", 0, 1);
        dueBreaks("hair damp 0;load 1;", 0, 1);
        dueBreaks("hair dyed 0;load 1;", 0, 2);
    }

    /** 10 at most. */
    private static void breaksAtMost10() {
        dueBreaks("hair plain 2;load 9;", 0, 9);
        dueBreaks("hair plain 4;load 9;", 0, 10);
        dueBreaks("hair plain 6;load 9;", 0, 10);
        dueBreaks("hair plain 9;load 9;", 0, 10);
        dueBreaks("hair dyed 9;load 9;", 0, 10);
        dueBreaks("hair dyed 9;load 4;", 0, 9);
        dueBreaks("hair dyed 9;load 5;", 0, 10);
        dueBreaks("hair dyed 9;load 6;", 0, 10);
        dueBreaks("hair doubled 9;load 9;", 0, 10);
        dueBreaks("hair sung 9;load 9;", 0, 9);
    }

    /** STRAIN: LOAD by the number of HAIRS that are WHOLE (up). */
    private static void strainIsRoundedUp() {
        int[][] due = {{1, 2, 3, 4, 5, 6, 7, 8, 9}, {1, 1, 2, 2, 3, 3, 4, 4, 5}, {1, 1, 1, 2, 2, 2, 3, 3, 3}};
        for (int whole = 1; whole <= 3; whole++) {
            SwordSeat x = Check.told("hair plain 2;hair plain 2;hair plain 2;");
            for (int i = whole; i < 3; i++) {
                x.knot(i, false);
            }
            for (int load = 1; load <= 9; load++) {
                x.set(0, load);
                CHECK.due("load " + load + " on " + whole, x.hair(0, 3), due[whole - 1][load - 1]);
            }
        }
    }

    /** 3 BREAKS (0: it is broken). */
    private static void breaksOfEach() {
        SwordSeat x = Check.told("hair dyed 9;hair plain 9;hair sung 9;load 9;broken 0;broken 2;");
        CHECK.due("broken", x.hair(0, 3), 0);
        CHECK.due("whole", x.hair(1, 3), 10);
        CHECK.due("broken, too", x.hair(2, 3), 0);
        CHECK.due("its kind stays", x.hair(0, 0), 2);
        CHECK.due("its age stays", x.hair(2, 1), 9);
    }

    private static void settingAtTheEdges() {
        SwordSeat x = Check.told("hair plain 0;");
        int[] loads = {1, 9, 1};
        int was = 3;
        for (int load : loads) {
            CHECK.due("load was", x.set(0, load), was);
            CHECK.due("load is", x.rule(3), load);
            was = load;
        }
        CHECK.due("prize at first", x.set(1, 0), 9);
        CHECK.due("prize 99", x.set(1, 99), 0);
        CHECK.due("prize is", x.rule(4), 99);
        CHECK.due("age 9", x.age(0, 9), 0);
        CHECK.due("age 0", x.age(0, 0), 9);
        for (int kind = 1; kind <= 4; kind++) {
            CHECK.due("dye of kind " + kind, x.dye(0, kind), kind - 1);
        }
        CHECK.due("the last kind", x.dye(0, 4), 4);
    }

    /** Each change is of the one HAIR, the one KING alone. */
    private static void settingTouchesOneThing() {
        for (int i = 0; i < 3; i++) {
            SwordSeat x = Check.told("hair plain 1;hair damp 2;hair dyed 3;");
            x.age(i, 9);
            x.dye(i, 4);
            for (int j = 0; j < 3; j++) {
                CHECK.due("age of " + j + " behind age(" + i + ")", x.hair(j, 1), j == i ? 9 : j + 1);
                CHECK.due("kind of " + j + " behind dye(" + i + ")", x.hair(j, 0), j == i ? 4 : j);
            }
            x.knot(i, false);
            CHECK.due("whole behind knot(" + i + ", false)", x.rule(6), 7 & ~(1 << i));
            x.knot(i, true);
            CHECK.due("whole behind knot(" + i + ", true)", x.rule(6), 7);
            for (int j = 0; j < 3; j++) {
                CHECK.due("age of " + j + " behind knot(" + i + ")", x.hair(j, 1), j == i ? 0 : j + 1);
            }
        }
    }

    /** A HAIR is cut, or a new one is there in its place: whether it was WHOLE. */
    private static void knottingTheLast() {
        SwordSeat x = Check.told("hair plain 9;");
        CHECK.due("cut", x.knot(0, false), 1);
        CHECK.due("fallen", x.rule(7), 1);
        CHECK.due("cut twice", x.knot(0, false), 0);
        CHECK.due("its age stays when it is cut", x.hair(0, 1), 9);
        CHECK.due("new", x.knot(0, true), 0);
        CHECK.due("it holds again", x.rule(7), 0);
        CHECK.due("new in place of a new one", x.knot(0, true), 1);
        CHECK.due("whole still", x.rule(6), 1);
        CHECK.due("no hour goes by it", x.rule(5), 0);
        CHECK.due("an hour may go", x.hour(0), 1);
    }

    private static void knottingByKind() {
        String[] kinds = {"plain", "damp", "dyed", "doubled", "sung"};
        for (int kind = 0; kind < kinds.length; kind++) {
            SwordSeat x = Check.told("hair " + kinds[kind] + " 7;broken 0;");
            x.knot(0, true);
            CHECK.due("of its kind", x.hair(0, 0), kind);
            CHECK.due("of age 0", x.hair(0, 1), 0);
        }
    }

    private static void payingAtTheEdges() {
        SwordSeat x = Check.told("king 1 2;king 3 4;king 5 6;king 7 8;");
        for (int k = 0; k < 4; k++) {
            CHECK.due("worth 9 of king " + k, x.pay(k, 0, 9), 2 * k + 1);
            CHECK.due("worth 0 of king " + k, x.pay(k, 0, 0), 9);
            CHECK.due("life 99 of king " + k, x.pay(k, 1, 99), 2 * k + 2);
            CHECK.due("life 0 of king " + k, x.pay(k, 1, 0), 99);
            for (int j = 0; j < 4; j++) {
                CHECK.due("worth of king " + j, x.king(j, 0), j <= k ? 0 : 2 * j + 1);
                CHECK.due("life of king " + j, x.king(j, 1), j <= k ? 0 : 2 * j + 2);
            }
        }
        CHECK.due("no fifth king", x.pay(4, 0, 1), -1);
    }

    /** AN HOUR in which just some WHOLE HAIRS break: how many are WHOLE then; BAD (also one that is not WHOLE). */
    private static void anHourByEachSet() {
        for (int whole = 0; whole < 8; whole++) {
            for (int breaks = -1; breaks <= 16; breaks++) {
                SwordSeat x = Check.told("hair plain 0;hair damp 1;hair dyed 2;");
                for (int i = 0; i < 3; i++) {
                    if ((whole >> i & 1) == 0) {
                        x.knot(i, false);
                    }
                }
                boolean bad = breaks < 0 || (breaks & ~whole) != 0;
                int due = bad ? -1 : whole == 0 ? -2 : Integer.bitCount(whole & ~breaks);
                CHECK.due("hour(" + breaks + ") of " + whole, x.hour(breaks), due);
                CHECK.due("whole behind hour(" + breaks + ") of " + whole, x.rule(6), due < 0 ? whole : whole & ~breaks);
                CHECK.due("hours behind hour(" + breaks + ") of " + whole, x.rule(5), due < 0 ? 0 : 1);
                CHECK.due("ages behind hour(" + breaks + ") of " + whole, x.count(5), due < 0 ? 3 : 6);
            }
        }
    }

    /** Then each HAIR's AGE is 1 more (9 at most), broken or not. */
    private static void ageIs9AtMost() {
        SwordSeat x = Check.told("hair plain 7;hair damp 8;hair dyed 9;broken 1;");
        int[][] due = {{8, 9, 9}, {9, 9, 9}, {9, 9, 9}};
        for (int[] ages : due) {
            x.hour(0);
            for (int i = 0; i < 3; i++) {
                CHECK.due("age of hair " + i, x.hair(i, 1), ages[i]);
            }
        }
        x = Check.told("hair plain 3;");
        CHECK.due("it breaks", x.hour(1), 0);
        CHECK.due("and grows older in that hour", x.hair(0, 1), 4);
        CHECK.due("not in one that does not go", x.hour(0), -2);
        CHECK.due("age stays", x.hair(0, 1), 4);
    }

    /** STATE: the sword is FALLEN. */
    private static void noHourUnderAFallenSword() {
        SwordSeat x = Check.told("hair plain 0;hair plain 0;");
        CHECK.due("both break", x.hour(3), 0);
        CHECK.due("the hour in which it fell went", x.rule(5), 1);
        CHECK.due("none behind it", x.hour(0), -2);
        CHECK.due("hour stays", x.rule(5), 1);
        x.knot(1, true);
        CHECK.due("it holds again", x.hour(0), 1);
        CHECK.due("hour goes on", x.rule(5), 2);
    }

    /** FULL: HOUR would be 100. */
    private static void the100thHour() {
        SwordSeat x = Check.told("hair plain 0;hair plain 0;");
        for (int i = 1; i <= 98; i++) {
            x.hour(0);
        }
        CHECK.due("98 went", x.rule(5), 98);
        CHECK.due("the 99th", x.hour(1), 1);
        CHECK.due("99 went", x.rule(5), 99);
        CHECK.due("the 100th", x.hour(0), -3);
        CHECK.due("the 100th with a break", x.hour(2), -3);
        CHECK.due("nothing broke", x.rule(6), 2);
        CHECK.due("99 still", x.rule(5), 99);
        CHECK.dueRatio("odds are asked all the same", x.falls(1, 0), x.falls(1, 1), 3, 5);
        CHECK.due("by a seed, too", x.drift(0, 60, 0) >= 0 ? 1 : 0, 1);
        CHECK.due("a text begins anew", Check.tell(x, "hair plain 0;"), 1);
        CHECK.due("hour 0", x.rule(5), 0);
        CHECK.due("an hour goes", x.hour(0), 1);
    }

    /** The first that fits: BAD ahead of STATE ahead of FULL. */
    private static void theFirstThatFits() {
        SwordSeat x = Check.told("hair plain 0;hair plain 0;");
        for (int i = 1; i <= 99; i++) {
            x.hour(0);
        }
        CHECK.due("BAD ahead of FULL", x.hour(4), -1);
        CHECK.due("BAD ahead of FULL, below 0", x.hour(-1), -1);
        x.knot(0, false);
        CHECK.due("BAD ahead of FULL, one that is broken", x.hour(1), -1);
        x.knot(1, false);
        CHECK.due("STATE ahead of FULL", x.hour(0), -2);
        CHECK.due("BAD ahead of STATE", x.hour(1), -1);
    }
}
