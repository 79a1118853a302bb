import java.util.ArrayList;
import java.util.List;

/**
 * All that can be seen of an object from outside, each answer with its call. Taking it uses the
 * object up: some 430 calls, and little of its state is left.
 */
final class Portrait {
    private static final int PLACES = 24;
    private static final int ALL = (1 << PLACES) - 1;
    private static final int NONE = SenderRows.NONE;

    private final SenderRows x;
    private final List<String> seen = new ArrayList<>();

    private Portrait(SenderRows x) {
        this.x = x;
    }

    static List<String> of(SenderRows x) {
        Portrait portrait = new Portrait(x);
        portrait.counts();
        portrait.places();
        portrait.senders();
        portrait.bearings();
        portrait.spots(0);
        portrait.spots(1);
        return portrait.seen;
    }

    /** The first answer in which two portraits differ; empty if there is none. */
    static String difference(List<String> one, List<String> other) {
        for (int i = 0; i < one.size() && i < other.size(); i++) {
            if (!one.get(i).equals(other.get(i))) return one.get(i) + " became " + other.get(i);
        }
        return one.size() == other.size() ? "" : one.size() + " answers became " + other.size();
    }

    private void see(String call, long answer) {
        seen.add(call + " = " + answer);
    }

    private void counts() {
        for (int what = 0; what < 10; what++) see("count " + what, x.count(what));
    }

    /**
     * With HEARERS at all PLACES each READ shows, and the count after it is taken back tells
     * whether it was by hand.
     */
    private void places() {
        for (int k = 0; k < PLACES; k++) see("heard " + k, x.heard(k));
        x.hearers(ALL);
        for (int k = 0; k < PLACES; k++) see("read " + k, x.heard(k));
        for (int k = 0; k < PLACES; k++) {
            see("taken back " + k, x.read(k, NONE));
            see("by hand after " + k, x.count(3));
        }
        for (int k = 0; k < PLACES; k++) see("gain " + k, x.gain(k, 1));
    }

    /** What comes at 0 and 1, with one SENDER less each time, tells STRENGTH and SLANT of each. */
    private void senders() {
        int left = x.count(2);
        for (int step = 0; step < 8 && left > 0; step++) {
            see("heard at 0 of " + left, x.heard(0));
            see("heard at 1 of " + left, x.heard(1));
            left = x.drop();
        }
        see("heard of none", x.heard(1));
    }

    private void bearings() {
        for (int i = 0; i < 6; i++) {
            for (int j = i + 1; j < 6; j++) {
                for (int what = 0; what < 4; what++) see("crossing " + i + " " + j + " " + what, x.crossing(i, j, what));
                see("borne " + i + " " + j, x.borne(i, j, 3));
            }
        }
    }

    /**
     * STATIONS of one parity look along x, the others along y, in all four ways: where two of them
     * cross, the one's y and the other's x are seen.
     */
    private void spots(int parity) {
        for (int signs = 0; signs < 4; signs++) {
            int u = (signs & 1) == 0 ? 1 : -1;
            int v = (signs & 2) == 0 ? 1 : -1;
            for (int i = 0; i < 6; i++) {
                if (i % 2 == parity) x.look(i, u, 0);
                else x.look(i, 0, v);
            }
            for (int i = parity; i < 6; i += 2) {
                for (int j = 1 - parity; j < 6; j += 2) {
                    see("x of " + j + " seen from " + i, x.crossing(i, j, 0));
                    see("y of " + i + " seen from " + j, x.crossing(i, j, 2));
                }
            }
        }
    }
}
