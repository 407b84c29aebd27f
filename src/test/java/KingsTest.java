/** Promises 25 to 28: duels, who would sit, laws. */
public final class KingsTest {
    private static final Check CHECK = new Check();

    public static void main(String[] args) {
        duels();
        duelsUnderFallen();
        crowns();
        reading();
        choosing();
        CHECK.close();
    }

    private static void dueDuel(SwordSeat x, int a, int b, int n, long[] due) {
        for (int what = 0; what < due.length; what++) {
            CHECK.due("duel(" + a + ", " + b + ", " + n + ", " + what + ")", x.duel(a, b, n, what), due[what]);
        }
    }

    private static void duels() {
        SwordSeat x = Check.told("hair plain 0;king 5 10;king 1 10;king 1 4;");
        dueDuel(x, 0, 1, 1, new long[] {2, 1, 9, 5, 1});
        // In his HOUR king 1 leaves, and king 0 has the prize: .8 by 14 - .2 by 10.
        dueDuel(x, 0, 1, 2, new long[] {46, 5, 9, 5, 1});
        dueDuel(x, 1, 0, 1, new long[] {0, 1, 9, 1, 0});
        dueDuel(x, 2, 0, 1, new long[] {0, 1, 9, 1, 0});
        // King 2 hopes for the prize when the sword falls on king 0: .8 by (1 + .2 by 9) - .2 by 4.
        dueDuel(x, 2, 0, 2, new long[] {36, 25, 17, 5, 1});
        dueDuel(x, 0, 1, 0, new long[] {0, 1, 0, 1, 0});
        CHECK.due("alike", x.duel(1, 1, 1, 0), -1);
        CHECK.due("duel(3, 0, 1, 0)", x.duel(3, 0, 1, 0), -1);
        CHECK.due("duel(0, 3, 1, 0)", x.duel(0, 3, 1, 0), -1);
        CHECK.due("duel(-1, 0, 1, 0)", x.duel(-1, 0, 1, 0), -1);
        CHECK.due("duel(0, -1, 1, 0)", x.duel(0, -1, 1, 0), -1);
        CHECK.due("duel(0, 1, 6, 0)", x.duel(0, 1, 6, 0), -1);
        CHECK.due("duel(0, 1, -1, 0)", x.duel(0, 1, -1, 0), -1);
        CHECK.due("duel(0, 1, 1, 5)", x.duel(0, 1, 1, 5), -1);
        CHECK.due("duel(0, 1, 1, -1)", x.duel(0, 1, 1, -1), -1);
    }

    private static void duelsUnderFallen() {
        SwordSeat x = Check.told("king 9 0;king 9 0;prize 7;");
        dueDuel(x, 0, 1, 1, new long[] {0, 1, 7, 1, 0});
        dueDuel(x, 1, 0, 5, new long[] {0, 1, 7, 1, 0});
        dueDuel(x, 0, 1, 0, new long[] {0, 1, 0, 1, 0});
    }

    private static void crowns() {
        SwordSeat x = Check.told("hair plain 0;king 1 10;king 5 10;king 5 10;");
        CHECK.due("the first of two", x.crown(1, 0), 1);
        CHECK.dueRatio("that worth", x.crown(1, 1), x.crown(1, 2), 2, 1);
        CHECK.due("no hours", x.crown(0, 0), 0);
        CHECK.dueRatio("nothing", x.crown(0, 1), x.crown(0, 2), 0, 1);
        CHECK.due("crown(6, 0)", x.crown(6, 0), -1);
        CHECK.due("crown(-1, 0)", x.crown(-1, 0), -1);
        CHECK.due("crown(1, 3)", x.crown(1, 3), -1);
        CHECK.due("crown(1, -1)", x.crown(1, -1), -1);
        CHECK.due("there are none", new SwordSeat().crown(1, 1), -2);
        CHECK.due("the wrong number first", new SwordSeat().crown(6, 1), -1);
        CHECK.due("the wrong part first", new SwordSeat().crown(1, 3), -1);
    }

    /** It holds 1 to 5 HOURS by .8, .64, .448, .3136, .18816. */
    private static final String LAWS = "hair plain 0;law 1 5;law 2 3;law 3 9;";

    private static void reading() {
        SwordSeat x = Check.told(LAWS);
        long[][] due = {{0, 1}, {4, 1}, {48, 25}, {668, 125}, {504, 125}, {4264, 625}, {11292, 3125}, {668, 125}};
        for (int set = 0; set < due.length; set++) {
            CHECK.dueRatio("reads(" + set + ")", x.reads(set, 0), x.reads(set, 1), due[set][0], due[set][1]);
        }
        CHECK.due("reads(8, 0)", x.reads(8, 0), -1);
        CHECK.due("reads(-1, 0)", x.reads(-1, 0), -1);
        CHECK.due("reads(1, 2)", x.reads(1, 2), -1);
        CHECK.due("reads(1, -1)", x.reads(1, -1), -1);
        CHECK.due("no such law", Check.told("law 1 1;").reads(2, 0), -1);
        CHECK.due("no laws", new SwordSeat().reads(1, 0), -1);
        CHECK.dueRatio("none of none", new SwordSeat().reads(0, 0), new SwordSeat().reads(0, 1), 0, 1);
    }

    private static void choosing() {
        SwordSeat x = Check.told(LAWS);
        CHECK.due("laws(0)", x.laws(0), 5);
        CHECK.dueRatio("that mean", x.laws(1), x.laws(2), 4264, 625);
        CHECK.due("laws(3)", x.laws(3), -1);
        CHECK.due("laws(-1)", x.laws(-1), -1);
        x.knot(0, false);
        CHECK.due("fallen: the empty set", x.laws(0), 0);
        CHECK.dueRatio("fallen", x.laws(1), x.laws(2), 0, 1);
        x = Check.told("hair sung 0;load 1;law 5 4;law 5 4;law 1 0;");
        CHECK.due("the least of several", x.laws(0), 1);
    }
}
