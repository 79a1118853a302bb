import java.util.List;

/**
 * What the tests of the bounds share: objects in which all is set, so that a change shows, and
 * the proof that a refused call changes nothing.
 */
final class Bounds {
    static final int NONE = -1;
    static final int UNKNOWN = -1001;
    static final int OUTSIDE = -1002;
    static final int NOT = -1003;
    static final int FULL = -1004;
    static final int MIN = Integer.MIN_VALUE;
    static final int MAX = Integer.MAX_VALUE;
    static final int ALL = (1 << 24) - 1;

    /** Makes an object, the same each time. */
    interface Made {
        SenderRows make();
    }

    /** One call, and its answer. */
    interface Call {
        long on(SenderRows x);
    }

    private final Due due;

    Bounds(Due due) {
        this.due = due;
    }

    /** P 37, three SENDERS, four STATIONS; PLACES 2, 11 and 20 to 23 without HEARERS. */
    static SenderRows busy() {
        SenderRows x = new SenderRows();
        x.prime(37);
        x.hearers(0xFF7FB);
        x.sender(3, 5);
        x.sender(10, 2);
        x.sender(36, 7);
        x.gain(0, 4);
        x.gain(2, 9);
        x.gain(3, 36);
        x.gain(23, 8);
        x.read(1, 0);
        x.read(2, 8);
        x.read(22, 36);
        x.station(0, 0, 1, 2);
        x.station(10, 1, -1, 1);
        x.station(5, -7, 0, 1);
        x.station(-8, 4, 3, 1);
        return x;
    }

    /** P 31, all HEARERS, eight SENDERS and six STATIONS. */
    static SenderRows full() {
        SenderRows x = new SenderRows();
        x.hearers(ALL);
        for (int i = 0; i < 8; i++) x.sender(3 * i + 2, 2 * i + 5);
        x.gain(0, 6);
        x.gain(23, 30);
        x.read(7, 0);
        for (int i = 0; i < 6; i++) x.station(7 * i - 20, i * i - 9, 1 - i, 3 + i);
        return x;
    }

    static SenderRows withReads(int p, int... reads) {
        SenderRows x = new SenderRows();
        x.prime(p);
        x.hearers((1 << reads.length) - 1);
        for (int k = 0; k < reads.length; k++) x.read(k, reads[k]);
        return x;
    }

    static SenderRows withStations(int[]... stations) {
        SenderRows x = new SenderRows();
        for (int[] s : stations) x.station(s[0], s[1], s[2], s[3]);
        return x;
    }

    /** The call is refused so, and nothing is changed by it. */
    void refused(String what, Made made, int refusal, Call call) {
        SenderRows x = made.make();
        due.is(what, call.on(x), refusal);
        unchanged(what, made, x);
    }

    /** As refused, on a new object, on a busy one and on a full one. */
    void refusedAlways(String what, int refusal, Call call) {
        refused(what + ", new", SenderRows::new, refusal, call);
        refused(what + ", busy", Bounds::busy, refusal, call);
        refused(what + ", full", Bounds::full, refusal, call);
    }

    /** The call is answered so, and nothing is changed by it. */
    void asked(String what, Made made, long want, Call call) {
        SenderRows x = made.make();
        due.is(what, call.on(x), want);
        unchanged(what, made, x);
    }

    private void unchanged(String what, Made made, SenderRows x) {
        List<String> before = Portrait.of(made.make());
        String difference = Portrait.difference(before, Portrait.of(x));
        due.holds(what + " changes nothing, but " + difference + ", so that", difference.isEmpty());
    }
}
