import java.util.List;

/** What the tests share: counts answers, prints those that are not as due, feeds texts. */
final class Check {
    private int passed = 0;
    private int failed = 0;

    void due(String call, long got, long want) {
        if (got == want) {
            passed++;
        } else {
            failed++;
            System.out.println(call + " answered " + got + ", due is " + want);
        }
    }

    /** A call that answers a fraction by its numerator and its denominator. */
    void dueRatio(String call, long top, long bottom, long wantTop, long wantBottom) {
        due(call + ", numerator", top, wantTop);
        due(call + ", denominator", bottom, wantBottom);
    }

    /** Two rows of answers that must be alike. */
    void dueSame(String what, List<Long> got, List<Long> want) {
        due(what + ": how many answers", got.size(), want.size());
        for (int i = 0; i < Math.min(got.size(), want.size()); i++) {
            due(what + ": answer " + i, got.get(i), want.get(i));
        }
    }

    void holds(String what, boolean is) {
        due(what, is ? 1 : 0, 1);
    }

    static void feedAll(SwordSeat seat, String text) {
        for (int i = 0; i < text.length(); i++) {
            seat.feed(text.charAt(i));
        }
    }

    static int tell(SwordSeat seat, String text) {
        feedAll(seat, text);
        return seat.text();
    }

    static SwordSeat told(String text) {
        SwordSeat seat = new SwordSeat();
        if (tell(seat, text) < 0) {
            throw new IllegalStateException("a test's text is not taken: " + text);
        }
        return seat;
    }

    /** The closing line, and exit code 1 if an answer was not as due. */
    void close() {
        System.out.println(passed + " passed, " + failed + " failed");
        if (failed != 0) {
            System.exit(1);
        }
    }
}
