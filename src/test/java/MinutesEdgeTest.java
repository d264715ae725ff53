/** Promises 11 to 16 at their bounds. */
public final class MinutesEdgeTest {
    private static final Check check = new Check("MinutesEdgeTest");
    private static final Edge edge = new Edge(check);

    public static void main(String[] args) {
        minutesAreFrom1To200();
        minutesEndAt99999();
        minutesAreBeyondBeforeState();
        onGoesPastTheLastMinute();
        on();
        onChangesNothing();
        heard();
        reaches();
        reachesNone();
        catches();
        catchesNone();
        out();
        check.end();
    }

    /** "n MINUTES go (1 to 200): who is in it then, as a set. BEYOND." */
    private static void minutesAreFrom1To200() {
        // One minute on EDGE is 14; 200 on it is 12 again, two days later.
        edge.range("minutes", () -> withAWalkerAt(14), (x, v) -> x.minutes(v), Edge.from(1, 200), 1, 0);
        edge.range("minutes", () -> withAWalkerAt(12), (x, v) -> x.minutes(v), Edge.from(1, 200), 1, 1);
        edge.range("minutes of nobody", HushAtFour::new, (x, v) -> x.minutes(v), Edge.from(1, 200), 0, 0);
        edge.refuses("minutes(0)", Edge::full, x -> x.minutes(0), Check.BEYOND);
        edge.refuses("minutes(201)", Edge::full, x -> x.minutes(201), Check.BEYOND);
        HushAtFour x = new HushAtFour();
        x.minutes(1);
        check.due("MINUTE", x.now(0), 1);
        x.minutes(200);
        check.due("MINUTE", x.now(0), 201);
    }

    private static HushAtFour withAWalkerAt(int house) {
        HushAtFour x = Edge.withPeople(1);
        x.set(0, 1, house);
        return x;
    }

    /** MINUTE is 99800, behind 500 calls, so that 12 are left of the 512 that an object is used for. */
    private static HushAtFour late() {
        HushAtFour x = new HushAtFour();
        x.person(0, 29);
        for (int i = 0; i < 499; i++) {
            x.minutes(200);
        }
        return x;
    }

    /** "STATE: MINUTE would be above 99999." */
    private static void minutesEndAt99999() {
        HushAtFour x = late();
        check.due("minutes(200) at 99800", x.minutes(200), Check.STATE);
        check.due("status(-1)", x.status(-1), 1);
        check.due("status(4)", x.status(4), 1);
        check.due("MINUTE stays", x.now(0), 99800);
        check.due("QUIET stays", x.of(0, 2), 998 * 3);
        check.due("minutes(199)", x.minutes(199), 0);
        check.due("MINUTE", x.now(0), 99999);
        check.due("that of the day", x.now(1), 99);
        check.due("QUIET", x.of(0, 2), 1000 * 3);
        check.due("minutes(1) at 99999", x.minutes(1), Check.STATE);
        check.due("MINUTE stays", x.now(0), 99999);
        check.due("status(4)", x.status(4), 2);
    }

    /** "BEYOND. STATE: .." in this order. */
    private static void minutesAreBeyondBeforeState() {
        HushAtFour x = late();
        x.minutes(199);
        check.due("minutes(201) at 99999", x.minutes(201), Check.BEYOND);
        check.due("minutes(max) at 99999", x.minutes(Integer.MAX_VALUE), Check.BEYOND);
        check.due("minutes(0) at 99999", x.minutes(0), Check.BEYOND);
        check.due("minutes(200) at 99999", x.minutes(200), Check.STATE);
        check.due("status(0)", x.status(0), 3);
        check.due("status(4)", x.status(4), 1);
        check.due("MINUTE stays", x.now(0), 99999);
    }

    /** STATE is a finding of minutes alone: "ON: n MINUTES go on with all as it is". */
    private static void onGoesPastTheLastMinute() {
        HushAtFour x = late();
        x.minutes(199);
        check.due("on(0, 400, 1) at 99999", x.on(0, 400, 1), 3000 + 4 * 3);
        check.due("reaches(0) at 99999", x.reaches(0), 31);
        check.due("catches(0) at 99999", x.catches(0), 60);
        check.due("heard(1) at 99999", x.heard(1), 90);
        check.due("where(0, 200) at 99999", x.where(0, 200), 0);
        check.due("quietest(400) at 99999", x.quietest(400), 0);
        check.due("status(-1)", x.status(-1), 0);
    }

    /** "House (what 0), QUIET (1), CAUGHT (2) of one ON n MINUTES (0 to 400). BEYOND." */
    private static void on() {
        edge.range("on of", Edge::full, (x, v) -> x.on(v, 0, 1), Edge.from(0, 7), 100, 107);
        // A walker at 8 is in it at EDGE 8, 10 and 12: the last of today, three of each day, two of the fourth day on.
        edge.range("on for, QUIET", Edge::full, (x, v) -> x.on(0, v, 1), Edge.from(0, 400), 100, 100 + 1 + 3 * 3 + 2);
        edge.range("on for, house", Edge::full, (x, v) -> x.on(3, v, 0), Edge.from(0, 400), 11, onTwice(3, 0));
        edge.range("on for, CAUGHT", Edge::full, (x, v) -> x.on(1, v, 2), Edge.from(0, 400), 1, onTwice(1, 2));
        edge.range("on what", Edge::full, (x, v) -> x.on(7, 0, v), Edge.from(0, 2), 15, 3);
        edge.refuses("on of nobody", HushAtFour::new, x -> x.on(0, 0, 0), Check.BEYOND);
    }

    /** The same 400 minutes gone for good, two hundred at a time: what 0 house, 2 CAUGHT. */
    private static int onTwice(int person, int what) {
        HushAtFour x = Edge.full();
        x.minutes(200);
        x.minutes(200);
        return x.of(person, what + 1);
    }

    /** "ON: .. nothing changes." */
    private static void onChangesNothing() {
        HushAtFour x = Edge.full();
        x.on(7, 400, 0);
        x.on(0, 1, 2);
        x.heard(400);
        x.reaches(0);
        x.catches(7);
        x.out();
        check.same("behind on, heard, reaches, catches, out", Edge.all(x), Edge.all(Edge.full()));
    }

    /** "HEARD ON n MINUTES (0 to 400). BEYOND." */
    private static void heard() {
        HushAtFour then = Edge.full();
        int now = then.now(3);
        then.minutes(200);
        then.minutes(200);
        edge.range("heard", Edge::full, (x, v) -> x.heard(v), Edge.from(0, 400), now, then.now(3));
        edge.range("heard of nobody", HushAtFour::new, (x, v) -> x.heard(v), Edge.from(0, 400), 88, 88);
    }

    /** "In how many MINUTES (0 to 400) ON THE HUSH takes a house first. BEYOND." */
    private static void reaches() {
        edge.range("reaches", HushAtFour::new, (x, v) -> x.reaches(v), Edge.from(0, 29), 30, 59);
        edge.range("reaches from EDGE 12", Edge::full, (x, v) -> x.reaches(v), Edge.from(0, 29), 94, 9);
        HushAtFour x = new HushAtFour();
        x.hush(0, 0);
        check.due("reaches(0) at FOUR", x.reaches(0), 0);
        x.hush(1, 1);
        x.minutes(1);
        check.due("reaches(1) at EDGE", x.reaches(1), 0);
        check.due("reaches(0) a minute behind it: all the day", x.reaches(0), 99);
        x.hush(0, 99);
        check.due("reaches(0) in the last minute of the day", x.reaches(0), 98);
    }

    /** ".. NONE." */
    private static void reachesNone() {
        for (int house : new int[] {0, 29}) {
            edge.refuses("reaches, 0 WIDE: " + house, () -> with(30, 0, 1), x -> x.reaches(house), Check.NONE);
        }
        // From FOUR 99 on there is one minute of the day: EDGE is 0, and the next day begins without one.
        edge.takes("reaches(0), FOUR 99", () -> with(99, 10, 5), x -> x.reaches(0), 99);
        edge.refuses("reaches(1), FOUR 99", () -> with(99, 10, 5), x -> x.reaches(1), Check.NONE);
        edge.takes("reaches(1), FOUR 98", () -> with(98, 1, 1), x -> x.reaches(1), 99);
        edge.refuses("reaches(2), FOUR 98", () -> with(98, 1, 1), x -> x.reaches(2), Check.NONE);
        edge.takes("reaches(29), FOUR 70", () -> with(70, 1, 1), x -> x.reaches(29), 99);
        edge.refuses("reaches(29), FOUR 71", () -> with(71, 1, 1), x -> x.reaches(29), Check.NONE);
        edge.takes("reaches(25), PACE 5", () -> with(0, 1, 5), x -> x.reaches(25), 5);
        edge.refuses("reaches(26), PACE 5, leapt over", () -> with(0, 1, 5), x -> x.reaches(26), Check.NONE);
        edge.takes("reaches(26), PACE 5, 5 WIDE", () -> with(0, 5, 5), x -> x.reaches(26), 6);
        edge.refuses("reaches(30), 0 WIDE", () -> with(30, 0, 1), x -> x.reaches(30), Check.BEYOND);
    }

    private static HushAtFour with(int four, int wide, int pace) {
        HushAtFour x = new HushAtFour();
        x.hush(0, four);
        x.hush(1, wide);
        x.hush(2, pace);
        return x;
    }

    private static HushAtFour with(int four, int wide, int pace, int kind, int house) {
        HushAtFour x = with(four, wide, pace);
        x.person(kind, house);
        return x;
    }

    /** "In how many MINUTES (0 to 400) ON one is in it first. BEYOND." */
    private static void catches() {
        // The child at 15 runs before it to 29, where it is held, and is in it at EDGE 30.
        edge.range("catches", Edge::full, (x, v) -> x.catches(v), Edge.from(0, 7), 0, 9);
        edge.refuses("catches of nobody", HushAtFour::new, x -> x.catches(0), Check.BEYOND);
        edge.takes("catches, at once", () -> with(0, 1, 1, 0, 0), x -> x.catches(0), 0);
        edge.takes("catches, in a minute", () -> with(1, 1, 1, 0, 0), x -> x.catches(0), 1);
        edge.takes("catches, the last house", () -> with(70, 1, 1, 0, 29), x -> x.catches(0), 99);
        // The child goes from 1 to 3 on the first day, and meets EDGE at 5 on the second.
        edge.takes("catches, the next day", () -> with(0, 1, 5, 2, 1), x -> x.catches(0), 101);
        HushAtFour x = with(0, 1, 5);
        x.minutes(1);
        x.person(2, 1);
        check.due("catches, the day after that", x.catches(0), 200);
    }

    /** ".. NONE." */
    private static void catchesNone() {
        edge.refuses("catches, 0 WIDE", () -> with(30, 0, 1, 0, 0), x -> x.catches(0), Check.NONE);
        edge.refuses("catches, 0 WIDE, a dog", () -> with(30, 0, 1, 3, 9), x -> x.catches(0), Check.NONE);
        edge.refuses("catches, leapt over", () -> with(0, 4, 5, 0, 1), x -> x.catches(0), Check.NONE);
        edge.takes("catches, 5 WIDE", () -> with(0, 5, 5, 0, 1), x -> x.catches(0), 1);
        edge.refuses("catches, the day ends", () -> with(71, 1, 1, 0, 29), x -> x.catches(0), Check.NONE);
        edge.refuses("catches of another, 0 WIDE", () -> with(30, 0, 1, 0, 0), x -> x.catches(1), Check.BEYOND);
    }

    /** "In how many MINUTES (0 to 400) ON there is no hush first." */
    private static void out() {
        edge.takes("out, ahead of FOUR", () -> with(1, 10, 1), x -> x.out(), 0);
        edge.takes("out, 0 WIDE", () -> with(0, 0, 1), x -> x.out(), 0);
        edge.takes("out, the longest", () -> with(0, 10, 1), x -> x.out(), 39);
        edge.takes("out, the shortest", () -> with(0, 1, 5), x -> x.out(), 6);
        HushAtFour x = with(99, 10, 1);
        x.minutes(99);
        check.due("out, in the last minute of the day", x.out(), 1);
        x.hush(0, 60);
        check.due("out, EDGE 39", x.out(), 0);
        x.hush(0, 61);
        check.due("out, EDGE 38", x.out(), 1);
        x.hush(0, 0);
        x.minutes(1);
        check.due("out, in the first minute of the day", x.out(), 39);
    }
}
