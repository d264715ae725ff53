/** Promises 1 to 5 at their bounds. */
public final class StreetEdgeTest {
    private static final Check check = new Check("StreetEdgeTest");
    private static final Edge edge = new Edge(check);

    public static void main(String[] args) {
        aNewObjectIsEmpty();
        noiseOfTheFirstAndTheLastHouse();
        noiseIsFrom0To20();
        hushHasThree();
        fourIsFrom0To99();
        wideIsFrom0To10();
        paceIsFrom1To5();
        houseTellsThree();
        houseTellsNobodyAndAll();
        nowTellsEight();
        nowOfNothingAndOfMost();
        check.end();
    }

    /** "Nobody there; THE TAPE is empty, no image is kept." */
    private static void aNewObjectIsEmpty() {
        HushAtFour x = new HushAtFour();
        check.due("count(0)", x.count(0), 0);
        check.due("count(1)", x.count(1), 0);
        check.due("wipe()", x.wipe(), 0);
        check.due("tear()", x.tear(), 0);
        check.due("now(4)", x.now(4), 0);
        for (int which = -1; which <= 6; which++) {
            check.due("status(" + which + ")", x.status(which), 0);
        }
        check.due("of(0, 0)", x.of(0, 0), Check.BEYOND);
        check.due("undo()", x.undo(), Check.NONE);
        check.due("town()", x.town(), -1);
        check.due("status(-1)", x.status(-1), 2);
    }

    /** "NOISE of a house becomes v: what it was. BEYOND." "HOUSES 0 to 29" */
    private static void noiseOfTheFirstAndTheLastHouse() {
        edge.range("noise of house", HushAtFour::new, (x, v) -> x.noise(v, 9), Edge.from(0, 29), 0, 4);
        edge.range("noise of house, many there", Edge::full, (x, v) -> x.noise(v, 9), Edge.from(0, 29), 0, 4);
        HushAtFour x = new HushAtFour();
        x.noise(0, 20);
        x.noise(29, 19);
        check.due("house 0", x.house(0, 0), 20);
        check.due("house 1", x.house(1, 0), 4);
        check.due("house 28", x.house(28, 0), 0);
        check.due("house 29", x.house(29, 0), 19);
    }

    /** "NOISE (0 to 20 ..)" */
    private static void noiseIsFrom0To20() {
        edge.range("noise of", Edge::full, (x, v) -> x.noise(7, v), Edge.from(0, 20), 11, 11);
        HushAtFour x = new HushAtFour();
        check.due("noise(3, 20)", x.noise(3, 20), 5);
        check.due("noise(3, 0)", x.noise(3, 0), 20);
        check.due("noise(3, 0) again", x.noise(3, 0), 0);
    }

    /** "FOUR (what 0), WIDE (1), PACE (2) becomes v: what it was. BEYOND." */
    private static void hushHasThree() {
        edge.range("hush what", Edge::full, (x, v) -> x.hush(v, 3), Edge.from(0, 2), 30, 2);
    }

    /** "FOUR: the minute of the day (0 to 99; 30 at first)" */
    private static void fourIsFrom0To99() {
        edge.range("hush(0) of", Edge::full, (x, v) -> x.hush(0, v), Edge.from(0, 99), 30, 30);
        HushAtFour x = new HushAtFour();
        x.hush(0, 99);
        check.due("now(5)", x.now(5), 99);
        check.due("hush(0, 0)", x.hush(0, 0), 99);
        check.due("now(5)", x.now(5), 0);
    }

    /** "THE HUSH is WIDE (0 to 10 houses; 3 at first)" */
    private static void wideIsFrom0To10() {
        edge.range("hush(1) of", Edge::full, (x, v) -> x.hush(1, v), Edge.from(0, 10), 5, 5);
        HushAtFour x = new HushAtFour();
        check.due("hush(1, 10)", x.hush(1, 10), 3);
        check.due("now(6)", x.now(6), 10);
        check.due("hush(1, 0)", x.hush(1, 0), 10);
        check.due("now(6)", x.now(6), 0);
    }

    /** "goes PACE (1 to 5 houses a minute; 1 at first)" */
    private static void paceIsFrom1To5() {
        edge.range("hush(2) of", Edge::full, (x, v) -> x.hush(2, v), Edge.from(1, 5), 2, 2);
        HushAtFour x = new HushAtFour();
        check.due("hush(2, 5)", x.hush(2, 5), 1);
        check.due("now(7)", x.now(7), 5);
        check.due("hush(2, 1)", x.hush(2, 1), 5);
        check.due("now(7)", x.now(7), 1);
    }

    /** "Of a house: what 0 NOISE, 1 1 if THE HUSH takes it now, else 0, 2 who is there, as a set. BEYOND." */
    private static void houseTellsThree() {
        edge.range("house(v, 0)", Edge::full, (x, v) -> x.house(v, 0), Edge.from(0, 29), 0, 4);
        edge.range("house(v, 1)", Edge::full, (x, v) -> x.house(v, 1), Edge.from(0, 29), 0, 0);
        edge.range("house(v, 2)", Edge::full, (x, v) -> x.house(v, 2), Edge.from(0, 29), 0, 0);
        edge.range("house(8, v)", Edge::full, (x, v) -> x.house(8, v), Edge.from(0, 2), 4, 1);
        edge.takes("house(8, 1), the last that it takes", Edge::full, x -> x.house(8, 1), 1);
        edge.takes("house(7, 1)", Edge::full, x -> x.house(7, 1), 0);
        edge.takes("house(12, 1), at EDGE", Edge::full, x -> x.house(12, 1), 1);
        edge.takes("house(13, 1)", Edge::full, x -> x.house(13, 1), 0);
    }

    /** "Sets are told by bits." */
    private static void houseTellsNobodyAndAll() {
        HushAtFour x = new HushAtFour();
        check.due("house(29, 2) of nobody", x.house(29, 2), 0);
        for (int p = 0; p < 8; p++) {
            x.person(p % 6, 29);
            check.due("house(29, 2) of " + (p + 1), x.house(29, 2), (2 << p) - 1);
        }
        for (int p = 0; p < 8; p++) {
            x.set(p, 1, p);
            check.due("house(" + p + ", 2)", x.house(p, 2), 1 << p);
        }
        check.due("house(29, 2), all gone", x.house(29, 2), 0);
    }

    /** "What 0 MINUTE, .. 7 PACE. BEYOND." */
    private static void nowTellsEight() {
        edge.range("now", Edge::full, (x, v) -> x.now(v), Edge.from(0, 7), 136, 2);
        int[] due = {136, 36, 13, -1, 31, 30, 5, 2};
        HushAtFour x = Edge.full();
        for (int what = 0; what <= 7; what++) {
            if (what != 3) {
                check.due("now(" + what + ")", x.now(what), due[what]);
            }
        }
    }

    /** "2 1 and EDGE (0: there is no hush), 3 HEARD, 4 who is in it, as a set" */
    private static void nowOfNothingAndOfMost() {
        HushAtFour x = new HushAtFour();
        check.due("now(2) without one", x.now(2), 0);
        for (int house = 0; house < 30; house++) {
            x.noise(house, 0);
        }
        check.due("now(3) of nothing", x.now(3), 0);
        for (int house = 0; house < 30; house++) {
            x.noise(house, 20);
        }
        for (int p = 0; p < 8; p++) {
            x.person(4, 0);
        }
        check.due("now(3) of most", x.now(3), 600 + 8 * 6);
        check.due("now(4), none in it", x.now(4), 0);
        x.hush(0, 0);
        check.due("now(2) at FOUR", x.now(2), 1);
        check.due("now(3), bells alone in it", x.now(3), 580 + 8);
        check.due("now(4), all in it", x.now(4), 255);
    }
}
