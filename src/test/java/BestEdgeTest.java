/** Promises 17 to 23 at their bounds. */
public final class BestEdgeTest {
    private static final Check check = new Check("BestEdgeTest");
    private static final Edge edge = new Edge(check);

    public static void main(String[] args) {
        where();
        whereFromEndToEnd();
        kind();
        kindFromEndToEnd();
        wide();
        wideFromEndToEnd();
        pace();
        paceFromEndToEnd();
        four();
        fourFromEndToEnd();
        still();
        stillFromEndToEnd();
        quietest();
        quietestFromEndToEnd();
        nothingChanges();
        check.end();
    }

    private static HushAtFour with(int four, int wide, int pace, int kind, int house) {
        HushAtFour x = new HushAtFour();
        x.hush(0, four);
        x.hush(1, wide);
        x.hush(2, pace);
        x.person(kind, house);
        return x;
    }

    /** In four days the first is in it for 3 minutes of each, the second, who has 7 at first, for 1: 12 against 11. */
    private static HushAtFour withTwo() {
        HushAtFour x = with(70, 3, 1, 0, 27);
        x.person(0, 29);
        x.set(1, 2, 7);
        return x;
    }

    private static HushAtFour silent(int minute, int four, int wide) {
        HushAtFour x = new HushAtFour();
        for (int house = 0; house < 30; house++) {
            x.noise(house, 0);
        }
        if (minute > 0) {
            x.minutes(minute);
        }
        x.hush(0, four);
        x.hush(1, wide);
        return x;
    }

    /** "AT which house one had best be now, so that its QUIET is most ON n MINUTES (1 to 200) .. BEYOND." */
    private static void where() {
        edge.range("where of", Edge::full, (x, v) -> x.where(v, 1), Edge.from(0, 7), 8, 8);
        edge.range("where for", () -> with(0, 1, 1, 0, 9), (x, v) -> x.where(0, v), Edge.from(1, 200), 0, 0);
        edge.refuses("where of nobody", HushAtFour::new, x -> x.where(0, 1), Check.BEYOND);
        edge.refuses("where of nobody for none", HushAtFour::new, x -> x.where(0, 0), Check.BEYOND);
    }

    /** ".. of several the least." */
    private static void whereFromEndToEnd() {
        HushAtFour x = with(0, 3, 1, 0, 9);
        x.minutes(31);
        check.due("where, 29 alone is in it", x.where(0, 1), 29);
        check.due("where, to the day's end", x.where(0, 69), 29);
        check.due("where, 0 and 29 alike with the next day", x.where(0, 70), 0);
        x.hush(0, 3);
        check.due("where, 26 to 28 are in it", x.where(0, 1), 26);
        x.hush(0, 31);
        check.due("where, 0 is in it", x.where(0, 1), 0);
        x.hush(0, 32);
        check.due("where, none is in it for a minute, all alike", x.where(0, 1), 0);
        x.hush(0, 3);
        x.set(0, 2, 9998);
        check.due("where, one minute to 9999", x.where(0, 3), 26);
        x.set(0, 2, 9999);
        check.due("where, held to 9999, all alike", x.where(0, 3), 0);
        x.hush(1, 0);
        x.set(0, 2, 0);
        check.due("where, 0 WIDE, all alike", x.where(0, 200), 0);
    }

    /** "The KIND as one of which QUIET of one is most ON n MINUTES (1 to 200) .. BEYOND." */
    private static void kind() {
        edge.range("kind of", Edge::full, (x, v) -> x.kind(v, 1), Edge.from(0, 7), 0, 0);
        edge.range("kind for", () -> with(0, 1, 1, 5, 0), (x, v) -> x.kind(0, v), Edge.from(1, 200), 0, 1);
        edge.refuses("kind of nobody", HushAtFour::new, x -> x.kind(0, 1), Check.BEYOND);
        edge.refuses("kind of nobody for none", HushAtFour::new, x -> x.kind(0, 0), Check.BEYOND);
    }

    /** ".. of several the least." */
    private static void kindFromEndToEnd() {
        edge.takes("kind, none is in it", () -> with(50, 3, 1, 5, 9), x -> x.kind(0, 50), 0);
        edge.takes("kind, 0 WIDE", () -> with(0, 0, 1, 5, 9), x -> x.kind(0, 200), 0);
        // EDGE 0, 3, 6, 9: from 1 a child and a runner come to 3, and a runner to 6 and 9, too.
        edge.takes("kind, a child and a runner alike", () -> with(0, 1, 3, 0, 1), x -> x.kind(0, 2), 2);
        edge.takes("kind, a runner", () -> with(0, 1, 3, 0, 1), x -> x.kind(0, 3), 5);
        HushAtFour x = with(0, 1, 3, 0, 1);
        x.set(0, 2, 9998);
        check.due("kind, one minute to 9999", x.kind(0, 4), 2);
        x.set(0, 2, 9999);
        check.due("kind, held to 9999", x.kind(0, 4), 0);
    }

    /** "The greatest WIDE (0 to 10) with which CAUGHT of all isn't more ON n MINUTES (1 to 100). BEYOND." */
    private static void wide() {
        edge.range("wide", () -> with(0, 3, 1, 3, 0), (x, v) -> x.wide(v), Edge.from(1, 100), 10, 10);
        edge.range("wide", () -> with(1, 3, 1, 0, 0), (x, v) -> x.wide(v), Edge.from(1, 100), 10, 0);
        edge.range("wide of nobody", HushAtFour::new, (x, v) -> x.wide(v), Edge.from(1, 100), 10, 10);
        edge.beyond("wide", Edge::full, (x, v) -> x.wide(v), Edge.from(1, 100));
    }

    /** With WIDE 0 CAUGHT is never more, so that its NONE can't come. */
    private static void wideFromEndToEnd() {
        for (int house = 0; house <= 11; house++) {
            HushAtFour x = with(0, 3, 1, 0, house);
            x.set(0, 1, 29);
            x.minutes(11);
            x.set(0, 1, house);
            // EDGE is 11: the house is in it if it is WIDE enough, and one less is the most.
            check.due("wide(1) of one at " + house, x.wide(1), Math.min(10, 11 - house));
        }
        HushAtFour x = with(0, 3, 1, 0, 0);
        x.minutes(1);
        check.due("wide(1) of one that WAS in it", x.wide(1), 10);
        check.due("wide(99), to the day's end", x.wide(99), 10);
        check.due("wide(100), with the next day", x.wide(100), 0);
        x.set(0, 3, 3);
        check.due("wide(100) of one that STEPS OVER", x.wide(100), 10);
        x.set(0, 3, 2);
        check.due("wide(100) of one that doesn't", x.wide(100), 0);
        HushAtFour held = with(0, 3, 1, 1, 0);
        held.set(0, 3, 9998);
        check.due("wide(1) of one to be held to 9999", held.wide(1), 0);
        held.set(0, 3, 9999);
        check.due("wide(1) of one held to 9999", held.wide(1), 10);
    }

    /** "The PACE (1 to 5) with which QUIET of all together is most ON n MINUTES (1 to 100) .. BEYOND." */
    private static void pace() {
        edge.range("pace", () -> with(0, 3, 5, 0, 0), (x, v) -> x.pace(v), Edge.from(1, 100), 1, 1);
        edge.range("pace of nobody", HushAtFour::new, (x, v) -> x.pace(v), Edge.from(1, 100), 1, 1);
        edge.beyond("pace", Edge::full, (x, v) -> x.pace(v), Edge.from(1, 100));
    }

    /** ".. of several the least." */
    private static void paceFromEndToEnd() {
        for (int pace = 1; pace <= 5; pace++) {
            HushAtFour x = with(0, 1, 1, 0, 5 * pace);
            x.minutes(5);
            check.due("pace(1), one at the house of PACE " + pace, x.pace(1), pace);
        }
        HushAtFour x = with(0, 1, 5, 0, 10);
        x.minutes(2);
        check.due("pace(1), 5 alone", x.pace(1), 5);
        x.person(0, 8);
        check.due("pace(1), 4 and 5 alike", x.pace(1), 4);
        x.person(0, 10);
        check.due("pace(1), together", x.pace(1), 5);
        x.set(0, 2, 9999);
        x.set(2, 2, 9999);
        check.due("pace(1), two held to 9999", x.pace(1), 4);
        x.set(1, 2, 9999);
        check.due("pace(1), all held to 9999", x.pace(1), 1);
    }

    /** "The FOUR (0 to 99) with which HEARD is least ON n MINUTES (0 to 100) .. BEYOND." */
    private static void four() {
        edge.range("four", () -> with(50, 1, 1, 0, 0), (x, v) -> x.four(v), Edge.from(0, 100), 0, 0);
        edge.range("four of nobody", HushAtFour::new, (x, v) -> x.four(v), Edge.from(0, 100), 0, 0);
        edge.beyond("four", Edge::full, (x, v) -> x.four(v), Edge.from(0, 100));
    }

    /** ".. of several the least." */
    private static void fourFromEndToEnd() {
        HushAtFour x = silent(99, 50, 1);
        check.due("four(0), all alike", x.four(0), 0);
        x.noise(0, 1);
        check.due("four(0) in minute 99, house 0 alone is heard", x.four(0), 99);
        x.noise(1, 1);
        check.due("four(0) in minute 99, houses 0 and 1 alike", x.four(0), 98);
        check.due("four(1) in minute 99, with the next day", x.four(1), 0);
        check.due("four(100) in minute 99", x.four(100), 98);
        x.noise(29, 1);
        check.due("four(0) in minute 99, house 29, too", x.four(0), 70);
        x.hush(1, 0);
        check.due("four(0), 0 WIDE, all alike", x.four(0), 0);
    }

    /** "The house without whose NOISE HEARD is least ON n MINUTES (0 to 100) .. BEYOND." */
    private static void still() {
        edge.range("still", HushAtFour::new, (x, v) -> x.still(v), Edge.from(0, 100), 5, 5);
        edge.range("still", Edge::full, (x, v) -> x.still(v), Edge.from(0, 100), 4, 4);
    }

    /** ".. of several the least." */
    private static void stillFromEndToEnd() {
        HushAtFour x = silent(0, 99, 1);
        check.due("still(0), all alike", x.still(0), 0);
        x.noise(29, 1);
        check.due("still(0), house 29 alone", x.still(0), 29);
        x.noise(28, 1);
        check.due("still(0), houses 28 and 29 alike", x.still(0), 28);
        x.noise(0, 1);
        check.due("still(0), house 0, too", x.still(0), 0);
        check.due("still(98)", x.still(98), 0);
        check.due("still(99), when 0 is in it", x.still(99), 28);
        check.due("still(100)", x.still(100), 0);
        x.noise(0, 20);
        check.due("still(99), whatever its NOISE", x.still(99), 28);
        x.noise(28, 0);
        x.noise(29, 0);
        check.due("still(99), all that is heard alike", x.still(99), 0);
    }

    /** "Whose QUIET is most ON n MINUTES (0 to 400) .. BEYOND. NONE: nobody is there." in this order. */
    private static void quietest() {
        edge.beyond("quietest", Edge::full, (x, v) -> x.quietest(v), Edge.from(0, 400));
        edge.range("quietest", BestEdgeTest::withTwo, (x, v) -> x.quietest(v), Edge.from(0, 400), 1, 0);
        edge.refuses("quietest(0) of nobody", HushAtFour::new, x -> x.quietest(0), Check.NONE);
        edge.refuses("quietest(400) of nobody", () -> Edge.withPeople(0), x -> x.quietest(400), Check.NONE);
        edge.refuses("quietest(-1) of nobody", HushAtFour::new, x -> x.quietest(-1), Check.BEYOND);
        edge.refuses("quietest(401) of nobody", HushAtFour::new, x -> x.quietest(401), Check.BEYOND);
        edge.takes("quietest(0) of one", () -> Edge.withPeople(1), x -> x.quietest(0), 0);
    }

    /** ".. of several the least." */
    private static void quietestFromEndToEnd() {
        HushAtFour x = new HushAtFour();
        for (int p = 0; p < 8; p++) {
            x.person(0, 9);
        }
        check.due("quietest(400), all alike", x.quietest(400), 0);
        x.set(7, 2, 1);
        check.due("quietest(400), the last", x.quietest(400), 7);
        x.set(6, 2, 1);
        check.due("quietest(400), the last two alike", x.quietest(400), 6);
        x.set(0, 2, 9998);
        x.set(1, 2, 9999);
        check.due("quietest(39), by one", x.quietest(39), 1);
        check.due("quietest(40), both held to 9999", x.quietest(40), 0);
    }

    /** "ON: .. nothing changes." */
    private static void nothingChanges() {
        HushAtFour x = Edge.full();
        x.where(7, 200);
        x.kind(7, 200);
        x.wide(100);
        x.pace(100);
        x.four(100);
        x.still(100);
        x.quietest(400);
        check.same("behind what is best", Edge.all(x), Edge.all(Edge.full()));
    }
}
