/** Promises 29 to 33: how many there had been, HOURS by a seed. */
public final class SeenTest {
    private static final Check CHECK = new Check();

    public static void main(String[] args) {
        seeing();
        forgetting();
        likelihoods();
        guesses();
        drifts();
        CHECK.close();
    }

    private static void seeing() {
        SwordSeat x = new SwordSeat();
        CHECK.due("see(6, 0)", x.see(6, 0), -1);
        CHECK.due("see(-1, 0)", x.see(-1, 0), -1);
        CHECK.due("see(0, 4)", x.see(0, 4), -1);
        CHECK.due("see(0, -1)", x.see(0, -1), -1);
        for (int i = 1; i <= 6; i++) {
            CHECK.due("see number " + i, x.see(i - 1, i % 4), i);
        }
        CHECK.due("see number 7", x.see(0, 0), -3);
        CHECK.due("the wrong number first", x.see(0, 4), -1);
        CHECK.due("count(0)", x.count(0), 6);
    }

    private static void forgetting() {
        SwordSeat x = new SwordSeat();
        x.see(0, 2);
        x.see(1, 3);
        CHECK.due("forget(-1)", x.forget(-1), -1);
        CHECK.due("forget(3)", x.forget(3), -1);
        CHECK.due("forget(2)", x.forget(2), 2);
        CHECK.due("that can not be", x.guess(0), -4);
        CHECK.due("forget(1)", x.forget(1), 2);
        CHECK.due("the first stays", x.guess(0), 2);
        CHECK.due("forget(0)", x.forget(0), 1);
        CHECK.due("nothing to forget", x.forget(0), 0);
        CHECK.due("all may be", x.guess(0), 1);
    }

    private static void likelihoods() {
        SwordSeat x = Check.told("hair dyed 9;broken 0;");
        CHECK.dueRatio("nothing seen", x.likely(4, 3, 0), x.likely(4, 3, 1), 1, 1);
        x.see(2, 1);
        CHECK.dueRatio("one plain", x.likely(0, 1, 0), x.likely(0, 1, 1), 16, 25);
        CHECK.dueRatio("two plain", x.likely(0, 2, 0), x.likely(0, 2, 1), 1449, 5000);
        x.see(1, 2);
        // Two stay (.81), then one breaks (2 by .9 by .1).
        CHECK.dueRatio("in one course of hours", x.likely(0, 2, 0), x.likely(0, 2, 1), 729, 5000);
        CHECK.dueRatio("one can not be two", x.likely(0, 1, 0), x.likely(0, 1, 1), 0, 1);
        x.set(0, 1);
        CHECK.dueRatio("by the load that is", x.likely(0, 2, 0), x.likely(0, 2, 1), 0, 1);
        CHECK.due("likely(5, 1, 0)", x.likely(5, 1, 0), -1);
        CHECK.due("likely(-1, 1, 0)", x.likely(-1, 1, 0), -1);
        CHECK.due("likely(0, 0, 0)", x.likely(0, 0, 0), -1);
        CHECK.due("likely(0, 4, 0)", x.likely(0, 4, 0), -1);
        CHECK.due("likely(0, 1, 2)", x.likely(0, 1, 2), -1);
        CHECK.due("likely(0, 1, -1)", x.likely(0, 1, -1), -1);
    }

    private static void guesses() {
        SwordSeat x = new SwordSeat();
        CHECK.due("guess(3)", x.guess(3), -1);
        CHECK.due("guess(-1)", x.guess(-1), -1);
        x.see(1, 0);
        // One HAIR breaks by 2, 3, 4, 2, 1 tenths; more of them fall less often.
        CHECK.due("one dyed", x.guess(0), 21);
        CHECK.dueRatio("so likely", x.guess(1), x.guess(2), 2, 5);
        x.see(0, 3);
        CHECK.due("three dyed", x.guess(0), 23);
        CHECK.dueRatio("so likely", x.guess(1), x.guess(2), 1, 125);
        x.see(0, 2);
        CHECK.due("by none", x.guess(0), -4);
        CHECK.due("by none, numerator", x.guess(1), -4);
        CHECK.due("by none, denominator", x.guess(2), -4);
    }

    private static void drifts() {
        SwordSeat x = Check.told("hair plain 0;hair damp 3;hair sung 5;load 5;");
        int[][] due = {{0, 1, 1, 6}, {1, 5, 3, 0}, {-1, 5, 3, 0}, {Integer.MIN_VALUE, 3, 3, 6}, {77, 60, 4, 0},
            {14, 8, 1, 0}, {40, 8, 8, 4}, {214, 8, 8, 5}, {275, 8, 8, 1}};
        for (int[] row : due) {
            String call = "drift(" + row[0] + ", " + row[1];
            CHECK.due(call + ", 0)", x.drift(row[0], row[1], 0), row[2]);
            CHECK.due(call + ", 1)", x.drift(row[0], row[1], 1), row[3]);
        }
        CHECK.due("nothing goes", x.rule(5), 0);
        CHECK.due("nothing breaks", x.rule(6), 7);
        CHECK.due("nothing ages", x.count(5), 8);
        CHECK.due("drift(1, 0, 0)", x.drift(1, 0, 0), -1);
        CHECK.due("drift(1, 61, 0)", x.drift(1, 61, 0), -1);
        CHECK.due("drift(1, 1, 2)", x.drift(1, 1, 2), -1);
        CHECK.due("drift(1, 1, -1)", x.drift(1, 1, -1), -1);
        CHECK.due("fallen", new SwordSeat().drift(1, 60, 0), 0);
        SwordSeat sure = Check.told("hair sung 0;hair sung 0;load 2;");
        CHECK.due("age 9 is the last", sure.drift(5, 3, 0), 3);
        CHECK.due("it holds three hours", sure.drift(5, 3, 1), 3);
    }
}
