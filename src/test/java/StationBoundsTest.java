/** Promises 19 to 23, stations: each sentence that names a bound, on both sides of it. */
public final class StationBoundsTest {
    private static final int NONE = Bounds.NONE;
    private static final int UNKNOWN = Bounds.UNKNOWN;
    private static final int OUTSIDE = Bounds.OUTSIDE;
    private static final int NOT = Bounds.NOT;
    private static final int FULL = Bounds.FULL;
    private static final int MIN = Bounds.MIN;
    private static final int MAX = Bounds.MAX;

    private static final Due due = new Due();
    private static final Bounds bounds = new Bounds(due);

    public static void main(String[] args) {
        Cases.run(StationBoundsTest.class, due);
    }

    private static int[] at(int x, int y, int u, int v) {
        return new int[] {x, y, u, v};
    }

    private static SenderRows with(int[]... stations) {
        return Bounds.withStations(stations);
    }

    /** One looks along x from (0, 0), the other as told. */
    private static SenderRows axisAnd(int x, int y, int u, int v) {
        return with(at(0, 0, 1, 0), at(x, y, u, v));
    }

    /** Busy, but STATION 3 looks away from 0. */
    private static SenderRows lookingAway() {
        SenderRows x = Bounds.busy();
        x.look(3, -1, 0);
        return x;
    }

    private static void crosses(String what, SenderRows x, int i, int j, long... parts) {
        for (int part = 0; part < 4; part++) {
            due.is(what + ", part " + part, x.crossing(i, j, part), parts[part]);
            due.is(what + ", turned round, part " + part, x.crossing(j, i, part), parts[part]);
        }
    }

    private static void crossesNot(String what, SenderRows x, int i, int j) {
        crosses(what, x, i, j, NOT, NOT, NOT, NOT);
        due.is(what + ", borne", x.borne(i, j, 200), NOT);
        due.is(what + ", borne, turned round", x.borne(j, i, 200), NOT);
    }

    // ---- 19: station

    static void promise19_station_placeTooSmall() {
        crosses("x and y -100", with(at(-100, -100, 1, 0), at(-100, -100, 0, 1)), 0, 1, -100, 1, -100, 1);
        for (int no : new int[] {-101, -102, MIN}) {
            bounds.refusedAlways("x " + no, OUTSIDE, x -> x.station(no, 0, 1, 1));
            bounds.refusedAlways("y " + no, OUTSIDE, x -> x.station(0, no, 1, 1));
        }
    }

    static void promise19_station_placeTooLarge() {
        crosses("x and y 100", with(at(100, 100, 1, 0), at(100, 100, 0, 1)), 0, 1, 100, 1, 100, 1);
        for (int no : new int[] {101, 102, MAX}) {
            bounds.refusedAlways("x " + no, OUTSIDE, x -> x.station(no, 0, 1, 1));
            bounds.refusedAlways("y " + no, OUTSIDE, x -> x.station(0, no, 1, 1));
        }
    }

    static void promise19_station_wayTooSmall() {
        due.is("u and v -100", new SenderRows().station(0, 0, -100, -100), 0);
        for (int no : new int[] {-101, -102, MIN}) {
            bounds.refusedAlways("u " + no, OUTSIDE, x -> x.station(0, 0, no, 1));
            bounds.refusedAlways("v " + no, OUTSIDE, x -> x.station(0, 0, 1, no));
        }
    }

    static void promise19_station_wayTooLarge() {
        due.is("u and v 100", new SenderRows().station(0, 0, 100, 100), 0);
        for (int no : new int[] {101, 102, MAX}) {
            bounds.refusedAlways("u " + no, OUTSIDE, x -> x.station(0, 0, no, 1));
            bounds.refusedAlways("v " + no, OUTSIDE, x -> x.station(0, 0, 1, no));
        }
    }

    static void promise19_station_wayBoth0() {
        due.is("(1, 0)", new SenderRows().station(0, 0, 1, 0), 0);
        due.is("(-1, 0)", new SenderRows().station(0, 0, -1, 0), 0);
        due.is("(0, 1)", new SenderRows().station(0, 0, 0, 1), 0);
        due.is("(0, -1)", new SenderRows().station(0, 0, 0, -1), 0);
        bounds.refusedAlways("(0, 0)", OUTSIDE, x -> x.station(3, 4, 0, 0));
    }

    static void promise19_station_seventh() {
        SenderRows x = new SenderRows();
        for (int i = 0; i < 6; i++) due.is("station " + i, x.station(i, 0, 0, 1), i);
        due.is("the seventh", x.station(6, 0, 0, 1), FULL);
        due.is("stations", x.count(4), 6);
        bounds.refused("the seventh", Bounds::full, FULL, y -> y.station(0, 0, 1, 1));
    }

    static void promise19_station_firstRefusal() {
        bounds.refused("outside ahead of full: x", Bounds::full, OUTSIDE, x -> x.station(101, 0, 1, 1));
        bounds.refused("outside ahead of full: y", Bounds::full, OUTSIDE, x -> x.station(0, -101, 1, 1));
        bounds.refused("outside ahead of full: way", Bounds::full, OUTSIDE, x -> x.station(0, 0, 0, 0));
    }

    static void promise19_station_placesMayBeAlike() {
        SenderRows x = new SenderRows();
        for (int i = 0; i < 6; i++) due.is("the same again", x.station(1, 2, 3, 4), i);
    }

    // ---- 20: look

    static void promise20_look_unknown() {
        due.is("the first", Bounds.busy().look(0, 1, 0), 1);
        due.is("the last", Bounds.busy().look(3, 1, 0), 1);
        due.is("the last of all", Bounds.full().look(5, 1, 0), 1);
        bounds.refused("one more", Bounds::busy, UNKNOWN, x -> x.look(4, 1, 0));
        bounds.refused("no station", SenderRows::new, UNKNOWN, x -> x.look(0, 1, 0));
        for (int i : new int[] {6, -1, MIN, MAX}) bounds.refusedAlways("" + i, UNKNOWN, x -> x.look(i, 1, 0));
    }

    static void promise20_look_wayTooSmall() {
        due.is("-100", Bounds.busy().look(0, -100, -100), 1);
        for (int no : new int[] {-101, MIN}) {
            bounds.refused("u " + no, Bounds::busy, OUTSIDE, x -> x.look(0, no, 1));
            bounds.refused("v " + no, Bounds::busy, OUTSIDE, x -> x.look(0, 1, no));
        }
    }

    static void promise20_look_wayTooLarge() {
        due.is("100", Bounds.busy().look(0, 100, 100), 1);
        for (int no : new int[] {101, MAX}) {
            bounds.refused("u " + no, Bounds::full, OUTSIDE, x -> x.look(5, no, 1));
            bounds.refused("v " + no, Bounds::full, OUTSIDE, x -> x.look(5, 1, no));
        }
    }

    static void promise20_look_wayBoth0() {
        due.is("(1, 0)", Bounds.busy().look(0, 1, 0), 1);
        due.is("(0, -1)", Bounds.busy().look(0, 0, -1), 1);
        bounds.refused("(0, 0)", Bounds::busy, OUTSIDE, x -> x.look(0, 0, 0));
    }

    static void promise20_look_firstRefusal() {
        bounds.refused("unknown ahead of outside: both 0", Bounds::busy, UNKNOWN, x -> x.look(4, 0, 0));
        bounds.refused("unknown ahead of outside: u", Bounds::busy, UNKNOWN, x -> x.look(-1, 101, 0));
    }

    static void promise20_look_thatStationAlone() {
        SenderRows x = with(at(0, 0, 1, 1), at(4, 0, 0, 1), at(9, 0, 0, 1));
        x.look(1, -1, 1);
        crosses("the one that looks", x, 0, 1, 2, 1, 2, 1);
        crosses("another", x, 0, 2, 9, 1, 9, 1);
    }

    // ---- 21: crossing

    static void promise21_crossing_unknown() {
        // (0, 0) by (1, 2) and (-8, 4) by (3, 1): (4, 8)
        bounds.asked("the first and the last", Bounds::busy, 4, x -> x.crossing(0, 3, 0));
        bounds.asked("the last and the first", Bounds::busy, 8, x -> x.crossing(3, 0, 2));
        bounds.refused("one more than i", Bounds::busy, UNKNOWN, x -> x.crossing(4, 0, 0));
        bounds.refused("one more than j", Bounds::busy, UNKNOWN, x -> x.crossing(0, 4, 0));
        bounds.refused("no station", SenderRows::new, UNKNOWN, x -> x.crossing(0, 1, 0));
        for (int no : new int[] {6, -1, MIN, MAX}) {
            bounds.refusedAlways("i " + no, UNKNOWN, x -> x.crossing(no, 0, 0));
            bounds.refusedAlways("j " + no, UNKNOWN, x -> x.crossing(0, no, 0));
        }
    }

    static void promise21_crossing_whatTooSmall() {
        // (0, 0) by (1, 2) and (10, 1) by (-1, 1): (11 / 3, 22 / 3)
        bounds.asked("0", Bounds::busy, 11, x -> x.crossing(0, 1, 0));
        bounds.asked("1", Bounds::busy, 3, x -> x.crossing(0, 1, 1));
        bounds.refused("-1", Bounds::busy, OUTSIDE, x -> x.crossing(0, 1, -1));
        bounds.refused("far below", Bounds::busy, OUTSIDE, x -> x.crossing(0, 1, MIN));
    }

    static void promise21_crossing_whatTooLarge() {
        bounds.asked("2", Bounds::busy, 22, x -> x.crossing(0, 1, 2));
        bounds.asked("3", Bounds::busy, 3, x -> x.crossing(0, 1, 3));
        bounds.refused("4", Bounds::busy, OUTSIDE, x -> x.crossing(0, 1, 4));
        bounds.refused("far above", Bounds::busy, OUTSIDE, x -> x.crossing(0, 1, MAX));
    }

    static void promise21_crossing_firstRefusal() {
        bounds.refused("unknown ahead of outside", Bounds::busy, UNKNOWN, x -> x.crossing(0, 4, 4));
        bounds.refused("unknown ahead of not: i is j", Bounds::busy, UNKNOWN, x -> x.crossing(4, 4, 0));
        bounds.refused("unknown ahead of all", Bounds::busy, UNKNOWN, x -> x.crossing(-1, -1, -1));
        bounds.refused("outside ahead of not: i is j", Bounds::busy, OUTSIDE, x -> x.crossing(2, 2, 4));
        bounds.refused("outside ahead of not: none", StationBoundsTest::lookingAway, OUTSIDE, x -> x.crossing(0, 3, -1));
    }

    static void promise21_crossing_withItself() {
        for (int i = 0; i < 4; i++) {
            int same = i;
            bounds.refused("i is j", Bounds::busy, NOT, x -> x.crossing(same, same, 0));
        }
        SenderRows alike = with(at(2, 3, 1, 0), at(2, 3, 0, 1));
        crosses("another at the same place", alike, 0, 1, 2, 1, 3, 1);
    }

    static void promise21_crossing_noneChangesNothing() {
        for (int part = 0; part < 4; part++) {
            int what = part;
            bounds.refused("part " + part, StationBoundsTest::lookingAway, NOT, x -> x.crossing(0, 3, what));
        }
    }

    static void promise21_crossing_alongOneAnother() {
        crossesNot("the same way", axisAnd(0, 5, 1, 0), 0, 1);
        crossesNot("the other way", axisAnd(0, 5, -1, 0), 0, 1);
        crossesNot("a longer way", axisAnd(0, 5, 100, 0), 0, 1);
        crossesNot("on one line", axisAnd(5, 0, 1, 0), 0, 1);
        crossesNot("face to face", axisAnd(5, 0, -1, 0), 0, 1);
        crossesNot("from one place", axisAnd(0, 0, -1, 0), 0, 1);
        crossesNot("the same in all", axisAnd(0, 0, 1, 0), 0, 1);
        crossesNot("aslant", with(at(0, 0, 50, -100), at(1, 0, -1, 2)), 0, 1);
        crosses("not quite along", axisAnd(0, 1, 100, -1), 0, 1, 100, 1, 0, 1);
        crosses("not quite along, aslant", with(at(0, 0, 100, 99), at(1, 1, 99, 98)), 0, 1, 100, 1, 99, 1);
    }

    static void promise21_crossing_whereOneStands() {
        crosses("at the first's place", axisAnd(0, 5, 0, -1), 0, 1, 0, 1, 0, 1);
        crosses("a little ahead of it", axisAnd(0, 5, 1, -100), 0, 1, 1, 20, 0, 1);
        crossesNot("a little behind it", axisAnd(0, 5, -1, -100), 0, 1);
        crosses("at the other's place", axisAnd(7, 0, 3, 1), 0, 1, 7, 1, 0, 1);
        crosses("ahead of the other's place", axisAnd(7, -1, 3, 1), 0, 1, 10, 1, 0, 1);
        crossesNot("behind the other's place", axisAnd(7, 1, 3, 1), 0, 1);
        crosses("at both places", axisAnd(0, 0, 3, 1), 0, 1, 0, 1, 0, 1);
        crossesNot("behind both", with(at(1, 0, 1, 0), at(0, 1, 0, 1)), 0, 1);
    }

    static void promise21_crossing_turnsOfBothKinds() {
        crosses("to the left", axisAnd(3, -2, 0, 1), 0, 1, 3, 1, 0, 1);
        crosses("to the right", axisAnd(3, 2, 0, -1), 0, 1, 3, 1, 0, 1);
        crossesNot("to the left, behind", axisAnd(-3, -2, 0, 1), 0, 1);
        crossesNot("to the right, behind", axisAnd(-3, 2, 0, -1), 0, 1);
    }

    static void promise21_crossing_leastTerms() {
        // from (0, 1) by (a, -b): at a / b
        crosses("1 / 2", axisAnd(0, 1, 50, -100), 0, 1, 1, 2, 0, 1);
        crosses("49 / 100", axisAnd(0, 1, 49, -100), 0, 1, 49, 100, 0, 1);
        crosses("a whole number", axisAnd(0, 1, 100, -50), 0, 1, 2, 1, 0, 1);
        crosses("0", axisAnd(0, 1, 0, -100), 0, 1, 0, 1, 0, 1);
        crosses("each for itself", with(at(0, 0, 1, 3), at(0, 5, 5, -1)), 0, 1, 25, 16, 75, 16);
        crosses("each for itself", with(at(0, 0, 3, 8), at(0, 4, 9, 0)), 0, 1, 3, 2, 4, 1);
    }

    static void promise21_crossing_lowerNumberAbove0() {
        crosses("both below 0", with(at(0, 0, -1, -2), at(-10, -1, 1, -1)), 0, 1, -11, 3, -22, 3);
        crosses("x below 0", with(at(0, 0, -1, 2), at(-10, 1, 1, 1)), 0, 1, -11, 3, 22, 3);
        crosses("y below 0", with(at(0, 0, 1, -2), at(10, -1, -1, -1)), 0, 1, 11, 3, -22, 3);
        crosses("a whole number below 0", with(at(-3, 0, 0, -1), at(0, -4, -1, 0)), 0, 1, -3, 1, -4, 1);
    }

    static void promise21_crossing_farthest() {
        // the turn is -1, and -200 by 98 less 200 by 99 is -39400: so many ways of the first
        SenderRows x = with(at(100, -100, 100, 99), at(-100, 100, 99, 98));
        crosses("turn 1", x, 0, 1, 100 + 39400L * 100, 1, -100 + 39400L * 99, 1);
        SenderRows y = with(at(-100, 100, -100, -99), at(100, -100, -99, -98));
        crosses("turn 1, the other way", y, 0, 1, -100 - 39400L * 100, 1, 100 - 39400L * 99, 1);
        SenderRows wide = with(at(-100, -100, 100, 100), at(100, -100, -100, 100));
        crosses("turn 20000", wide, 0, 1, 0, 1, 0, 1);
        SenderRows odd = with(at(-100, -100, 100, 99), at(100, -100, -99, 100));
        // turn 19801: 20000 / 19801 of the way
        crosses("turn 19801", odd, 0, 1, -100L * 19801 + 2000000, 19801, -100L * 19801 + 1980000, 19801);
    }

    // ---- 22: borne

    static void promise22_borne_unknown() {
        bounds.asked("there are both", Bounds::busy, 0, x -> x.borne(0, 1, 0));
        bounds.refused("one more than i", Bounds::busy, UNKNOWN, x -> x.borne(4, 0, 0));
        bounds.refused("one more than j", Bounds::busy, UNKNOWN, x -> x.borne(0, 4, 0));
        for (int no : new int[] {6, -1, MIN, MAX}) {
            bounds.refusedAlways("i " + no, UNKNOWN, x -> x.borne(no, 0, 0));
            bounds.refusedAlways("j " + no, UNKNOWN, x -> x.borne(0, no, 0));
        }
    }

    static void promise22_borne_widthTooSmall() {
        bounds.asked("0", Bounds::busy, 0, x -> x.borne(0, 1, 0));
        bounds.refused("-1", Bounds::busy, OUTSIDE, x -> x.borne(0, 1, -1));
        bounds.refused("far below", Bounds::busy, OUTSIDE, x -> x.borne(0, 1, MIN));
    }

    static void promise22_borne_widthTooLarge() {
        bounds.asked("200", Bounds::busy, 2, x -> x.borne(0, 1, 200));
        bounds.refused("201", Bounds::busy, OUTSIDE, x -> x.borne(0, 1, 201));
        bounds.refused("far above", Bounds::busy, OUTSIDE, x -> x.borne(0, 1, MAX));
    }

    static void promise22_borne_noCrossing() {
        bounds.refused("i is j", Bounds::busy, NOT, x -> x.borne(1, 1, 0));
        bounds.refused("behind", StationBoundsTest::lookingAway, NOT, x -> x.borne(0, 3, 200));
        due.is("along one another", axisAnd(0, 5, 1, 0).borne(0, 1, 200), NOT);
        due.is("not quite", axisAnd(0, 5, 100, -1).borne(0, 1, 200), 0);
    }

    static void promise22_borne_firstRefusal() {
        bounds.refused("unknown ahead of outside", Bounds::busy, UNKNOWN, x -> x.borne(0, 4, 201));
        bounds.refused("unknown ahead of not", Bounds::busy, UNKNOWN, x -> x.borne(4, 4, 0));
        bounds.refused("outside ahead of not: i is j", Bounds::busy, OUTSIDE, x -> x.borne(1, 1, 201));
        bounds.refused("outside ahead of not: none", StationBoundsTest::lookingAway, OUTSIDE, x -> x.borne(0, 3, -1));
    }

    static void promise22_borne_othersAlone() {
        SenderRows x = with(at(-3, 0, 1, 0), at(0, -4, 0, 1));
        due.is("the two don't count", x.borne(0, 1, 200), 0);
        for (int others = 1; others <= 4; others++) {
            x.station(0, 0, 1, others);
            due.is("others", x.borne(0, 1, 0), others);
            due.is("others, turned round", x.borne(1, 0, 0), others);
        }
        due.is("another pair", x.borne(2, 5, 0), 4);
    }

    /** A CROSSING at (0, 0), and a third one. */
    private static SenderRows crossAnd(int x, int y, int u, int v) {
        return with(at(-3, 0, 1, 0), at(0, -4, 0, 1), at(x, y, u, v));
    }

    private static void borneFrom(String what, SenderRows x, int width) {
        due.is(what + ": just so", x.borne(0, 1, width), 1);
        if (width > 0) due.is(what + ": too narrow", x.borne(0, 1, width - 1), 0);
        if (width < 200) due.is(what + ": wider", x.borne(0, 1, width + 1), 1);
    }

    static void promise22_borne_atMostTheWidth() {
        borneFrom("0", crossAnd(-9, 0, 1, 0), 0);
        borneFrom("1", crossAnd(-9, 1, 1, 0), 1);
        borneFrom("100", crossAnd(-9, -100, 100, 0), 100);
        // by (3, 4) the place is 4 aside for 5 along x; by (-4, 3) it is 3
        borneFrom("4", crossAnd(5, 0, -3, 4), 4);
        borneFrom("3", crossAnd(5, 0, -4, 3), 3);
        borneFrom("3, a longer way", crossAnd(5, 0, -80, 60), 3);
        // a way of (1, 1): 1 along x is less than 1 aside, 2 more than 1
        borneFrom("root of 1 / 2", crossAnd(-1, 0, 1, 1), 1);
        borneFrom("root of 2", crossAnd(-2, 0, 1, 1), 2);
        // root of 20000, 141.4
        borneFrom("the farthest corner", crossAnd(100, 100, -100, 100), 142);
    }

    static void promise22_borne_fractionsOfTheWidth() {
        // the crossing is at 1 / 20, or at -1 / 20; 5 along x from the third one, that is 4 aside
        SenderRows more = with(at(-3, 0, 1, 0), at(0, 5, 1, -100), at(-5, 0, 3, 4));
        borneFrom("a little more than 4", more, 5);
        SenderRows less = with(at(-3, 0, 1, 0), at(0, 5, -1, -100), at(-5, 0, 3, 4));
        borneFrom("a little less than 4", less, 4);
        // at 1 / 20 itself, 1 / 20 aside
        SenderRows little = with(at(-3, 0, 1, 0), at(0, 5, 1, -100), at(0, -5, 0, 1));
        borneFrom("1 / 20", little, 1);
        SenderRows naught = with(at(-3, 0, 1, 0), at(0, 5, 1, -100), at(0, -5, 1, 100));
        borneFrom("not at all", naught, 0);
    }

    static void promise22_borne_widestOfAll() {
        // the crossing is at (100, 100), (100, 101)
        SenderRows just = with(at(-100, 100, 1, 0), at(100, -100, 0, 1), at(0, -100, 1, 0));
        due.is("200 aside, by 200", just.borne(0, 1, 200), 1);
        due.is("200 aside, by 199", just.borne(0, 1, 199), 0);
        SenderRows beyond = with(at(-1, 0, 1, 1), at(100, -100, 0, 1), at(0, -100, 1, 0));
        crosses("201 aside", beyond, 0, 1, 100, 1, 101, 1);
        due.is("201 aside, by 200", beyond.borne(0, 1, 200), 0);
    }

    static void promise22_borne_everyWidth() {
        // ways of the greatest turn, 20000: the crossing is at (0, 0)
        SenderRows x = with(at(-100, -100, 100, 100), at(100, -100, -100, 100), at(-50, 99, 100, 0));
        for (int width = 0; width <= 200; width++) {
            due.is("99 aside, by " + width, x.borne(0, 1, width), width >= 99 ? 1 : 0);
        }
        x.look(2, 0, -100);
        for (int width = 0; width <= 200; width++) {
            due.is("50 aside, by " + width, x.borne(0, 1, width), width >= 50 ? 1 : 0);
        }
    }

    static void promise22_borne_notBehind() {
        borneFrom("it stands there", crossAnd(0, 0, -1, -1), 0);
        borneFrom("abeam", crossAnd(0, 7, 1, 0), 7);
        borneFrom("abeam, the other way", crossAnd(0, 7, -100, 0), 7);
        borneFrom("a little ahead", crossAnd(0, 7, 100, -1), 7);
        due.is("a little behind", crossAnd(0, 7, 100, 1).borne(0, 1, 200), 0);
        borneFrom("abeam, aslant", crossAnd(3, 4, -4, 3), 5);
        due.is("behind, on the line", crossAnd(5, 0, 1, 0).borne(0, 1, 200), 0);
        borneFrom("ahead, on the line", crossAnd(5, 0, -1, 0), 0);
    }

    static void promise22_borne_behindByAFraction() {
        // at (1 / 20, 0), the third one stands at (0, 0)
        SenderRows ahead = with(at(-3, 0, 1, 0), at(0, 5, 1, -100), at(0, 0, 1, 0));
        due.is("ahead", ahead.borne(0, 1, 0), 1);
        ahead.look(2, 0, 1);
        due.is("abeam", ahead.borne(0, 1, 1), 1);
        ahead.look(2, -1, 100);
        due.is("behind", ahead.borne(0, 1, 1), 0);
        // at (1 / 100, 0)
        SenderRows least = with(at(-3, 0, 1, 0), at(0, 1, 1, -100), at(0, 0, 1, 100));
        due.is("the least ahead", least.borne(0, 1, 1), 1);
        least.look(2, -1, 100);
        due.is("the least behind", least.borne(0, 1, 1), 0);
    }

    static void promise22_borne_farthest() {
        SenderRows x = with(at(100, -100, 100, 99), at(-100, 100, 99, 98), at(-100, -100, 100, 99));
        // 200 along x is 19800 by the root of 19801 aside: 140.7
        due.is("far away, too narrow", x.borne(0, 1, 140), 0);
        due.is("far away", x.borne(0, 1, 141), 1);
        x.look(2, 99, 100);
        due.is("far aside", x.borne(0, 1, 200), 0);
        x.look(2, -100, 100);
        due.is("far aside, abeam", x.borne(0, 1, 200), 0);
        x.look(2, -100, -99);
        due.is("far behind", x.borne(0, 1, 200), 0);
        SenderRows wide = with(at(-100, -100, 100, 99), at(100, -100, -99, 100), at(100, 100, -100, -100));
        // (19900 / 19801, -100 / 19801): 20000 / 19801 by the root of 2 aside, so 0.7
        borneFrom("long fractions", wide, 1);
    }

    // ---- 23: most

    private static void mostIs(String what, SenderRows x, int width, int i, int j, int many) {
        due.is(what + ": i", x.most(width, 0), i);
        due.is(what + ": j", x.most(width, 1), j);
        due.is(what + ": by how many", x.most(width, 2), many);
    }

    static void promise23_most_widthTooSmall() {
        bounds.asked("0", Bounds::busy, 0, x -> x.most(0, 0));
        bounds.refusedAlways("-1", OUTSIDE, x -> x.most(-1, 0));
        bounds.refusedAlways("far below", OUTSIDE, x -> x.most(MIN, 0));
    }

    static void promise23_most_widthTooLarge() {
        bounds.asked("200", Bounds::busy, 2, x -> x.most(200, 2));
        bounds.refusedAlways("201", OUTSIDE, x -> x.most(201, 0));
        bounds.refusedAlways("far above", OUTSIDE, x -> x.most(MAX, 0));
    }

    static void promise23_most_whatTooSmall() {
        bounds.asked("0", Bounds::busy, 0, x -> x.most(200, 0));
        bounds.refusedAlways("-1", OUTSIDE, x -> x.most(200, -1));
        bounds.refusedAlways("far below", OUTSIDE, x -> x.most(200, MIN));
    }

    static void promise23_most_whatTooLarge() {
        bounds.asked("1", Bounds::busy, 1, x -> x.most(200, 1));
        bounds.asked("2", Bounds::busy, 2, x -> x.most(200, 2));
        bounds.refusedAlways("3", OUTSIDE, x -> x.most(200, 3));
        bounds.refusedAlways("far above", OUTSIDE, x -> x.most(200, MAX));
    }

    static void promise23_most_noCrossing() {
        mostIs("no station", new SenderRows(), 200, NONE, NONE, NONE);
        mostIs("one", with(at(0, 0, 1, 0)), 200, NONE, NONE, NONE);
        mostIs("two along one another", axisAnd(0, 1, 1, 0), 200, NONE, NONE, NONE);
        mostIs("two that cross", axisAnd(0, 1, 1, -1), 200, 0, 1, 0);
        mostIs("two, behind", axisAnd(0, 1, 1, 1), 200, NONE, NONE, NONE);
        SenderRows six = new SenderRows();
        for (int i = 0; i < 6; i++) six.station(i, 0, 0, 1);
        mostIs("six along one another", six, 200, NONE, NONE, NONE);
        six.look(5, -1, 1);
        mostIs("the last crosses them all", six, 200, 0, 5, 4);
        six.look(5, 1, 1);
        mostIs("none again", six, 200, NONE, NONE, NONE);
        due.is("none, and outside", six.most(201, 0), OUTSIDE);
    }

    static void promise23_most_borneOutByNone() {
        // the last two alone cross
        SenderRows x = with(at(0, 0, 0, -1), at(50, 0, 0, -1), at(0, 50, 1, 0), at(50, 60, 0, -1));
        mostIs("the last pair", x, 0, 2, 3, 0);
    }

    static void promise23_most_allBearItOut() {
        SenderRows x = new SenderRows();
        for (int i = 0; i < 6; i++) x.station(-i, -1, i, 1);
        mostIs("six rays through (0, 0)", x, 0, 0, 1, 4);
    }

    static void promise23_most_ofLikeOnesTheLeast() {
        // 0 and 3 look along x, 1 and 2 along y: each pair of them crosses, none is borne out
        SenderRows x = with(at(0, 0, 1, 0), at(10, -5, 0, 1), at(20, -5, 0, 1), at(0, 5, 1, 0));
        mostIs("the least i, then j", x, 0, 0, 1, 0);
        // 1 looks away: 0 and 2, then 2 and 3
        x.look(1, 0, -1);
        mostIs("the next j", x, 0, 0, 2, 0);
        x.look(0, -1, 0);
        mostIs("the next i", x, 0, 2, 3, 0);
    }

    static void promise23_most_oneMoreBeatsTheLeast() {
        // 4 goes through the crossing of 2 and 3 alone: (20, 5)
        SenderRows x = with(at(0, 0, 1, 0), at(10, -5, 0, 1), at(20, -5, 0, 1), at(0, 5, 1, 0), at(25, 0, -1, 1));
        mostIs("by one more", x, 0, 2, 3, 1);
        x.look(4, 1, 1);
        mostIs("by none", x, 0, 0, 1, 0);
    }

    static void promise23_most_byTheWidth() {
        SenderRows x = with(at(0, 0, 1, 0), at(5, -5, 0, 1), at(8, -5, 0, 1), at(8, 5, 0, -1));
        mostIs("0", x, 0, 0, 2, 1);
        mostIs("2", x, 2, 0, 2, 1);
        mostIs("3", x, 3, 0, 1, 2);
    }
}
