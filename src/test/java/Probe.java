import java.util.ArrayList;
import java.util.List;

/** All that calls can bring to light of a seat. Some of them change it, so a seat is used up by it. */
final class Probe {
    private final SwordSeat seat;
    private final List<Long> answers = new ArrayList<>();

    private Probe(SwordSeat seat) {
        this.seat = seat;
    }

    static List<Long> of(SwordSeat seat) {
        Probe probe = new Probe(seat);
        probe.whatThereIs();
        probe.whatIsSeen();
        probe.whatIsKept();
        probe.whatIsOnSheets();
        probe.whatIsOnTheTape();
        return probe.answers;
    }

    /** What the calls that change nothing tell. */
    static List<Long> asked(SwordSeat seat) {
        Probe probe = new Probe(seat);
        probe.whatThereIs();
        return probe.answers;
    }

    private long add(long answer) {
        answers.add(answer);
        return answer;
    }

    private void whatThereIs() {
        for (int what = 0; what < 8; what++) {
            add(seat.rule(what));
        }
        for (int i = 0; i < 3; i++) {
            for (int what = 0; what < 4; what++) {
                add(seat.hair(i, what));
            }
        }
        for (int i = 0; i < 4; i++) {
            for (int what = 0; what < 2; what++) {
                add(seat.king(i, what));
                add(seat.law(i, what));
            }
        }
        for (int what = 0; what < 6; what++) {
            add(seat.count(what));
        }
        add(seat.fault());
        add(seat.torn());
    }

    /** Each SEEN one tells by what becomes likely when it is forgotten. */
    private void whatIsSeen() {
        for (int n = seat.count(0); n >= 0; n--) {
            add(seat.forget(n));
            add(seat.guess(0));
            add(seat.guess(1));
            add(seat.likely(2, 3, 0));
            add(seat.likely(2, 3, 1));
        }
    }

    private void whatIsKept() {
        for (int k = 1; k >= 0; k--) {
            add(seat.back(k));
            whatThereIs();
        }
    }

    /** IMAGE 0, where there is one, makes all HAIRS WHOLE again ahead of each CELL. */
    private void whatIsOnSheets() {
        for (int k = 0; k < 4; k++) {
            int lane = 0;
            for (int asked = 0; asked < 3; asked++) {
                seat.back(0);
                add(seat.read(k, asked, 40, 1));
                lane = add(seat.torn()) == 2 ? asked : lane;
            }
            for (int i = 0; i < 3; i++) {
                seat.back(0);
                add(seat.read(k, lane, i, 1));
                add(seat.rule(6));
                add(seat.torn());
            }
        }
    }

    private void whatIsOnTheTape() {
        add(seat.text());
        add(seat.fault());
        whatThereIs();
    }
}
