/** Promises 33 to 37 at their bounds. */
public final class ImagesEdgeTest {
    private static final Check check = new Check("ImagesEdgeTest");
    private static final Edge edge = new Edge(check);

    public static void main(String[] args) {
        imageKeepsAllOfSection1();
        imageKeepsNoTapeAndNoSheet();
        imageOfNothingAndOfAll();
        undoOfTheLatestWhichStays();
        undoOfNothing();
        tears();
        counts();
        countsFromNoneToMost();
        statusTellsEight();
        statusOfEachFinding();
        statusCountsNoFault();
        statusIsCountedFromThenOn();
        check.end();
    }

    /** "All that section 1 tells (THE TAPE not) is kept: 1." "It becomes what was kept latest" */
    private static void imageKeepsAllOfSection1() {
        HushAtFour x = Edge.full();
        HushAtFour twin = Edge.full();
        check.due("image()", x.image(), 1);
        twin.image();
        Edge.Call[] changes = {
            y -> y.noise(0, 20), y -> y.noise(29, 20), y -> y.hush(0, 0), y -> y.hush(1, 10), y -> y.hush(2, 5),
            y -> y.turn(0, 5), y -> y.turn(7, 0), y -> y.set(0, 1, 29), y -> y.set(7, 1, 0), y -> y.set(0, 2, 9999),
            y -> y.set(7, 2, 0), y -> y.set(0, 3, 9999), y -> y.set(7, 3, 0), y -> y.lays(0), y -> y.minutes(200),
            y -> y.minutes(1)};
        for (int i = 0; i < changes.length; i++) {
            changes[i].on(x);
            check.due("undo() behind change " + i, x.undo(), 8);
        }
        check.same("behind all of them", Edge.all(x), Edge.all(twin));
        wasIsKept();
    }

    private static void wasIsKept() {
        HushAtFour x = new HushAtFour();
        x.person(0, 0);
        x.minutes(31);
        x.image();
        x.minutes(100 - 31);
        check.due("WAS, later", x.of(0, 7), 0);
        x.undo();
        check.due("WAS, as kept", x.of(0, 7), 1);
        x.minutes(1);
        check.due("CAUGHT, since it WAS", x.of(0, 3), 1);
    }

    private static void imageKeepsNoTapeAndNoSheet() {
        HushAtFour x = Edge.full();
        x.image();
        x.wipe();
        Check.feed(x, "wide 9");
        x.sheet(0, 0, 0);
        x.sheet(3, 16, 2);
        x.write(3, 1, 700);
        x.undo();
        check.due("bytes of THE TAPE", x.count(1), 6);
        check.due("town()", x.town(), 1);
        check.due("WIDE", x.now(6), 9);
        check.due("sheet 0", x.write(0, 0, 0), Check.MISSING);
        check.due("sheet 3", x.write(3, 1, 0), 700);
    }

    /** ".. how many PEOPLE." */
    private static void imageOfNothingAndOfAll() {
        HushAtFour x = new HushAtFour();
        x.image();
        for (int p = 0; p < 8; p++) {
            x.person(0, 0);
        }
        check.due("undo() to nobody", x.undo(), 0);
        check.due("count(0)", x.count(0), 0);
        check.due("of(0, 0)", x.of(0, 0), Check.BEYOND);
        check.due("a first one again", x.person(5, 5), 0);
        for (int p = 1; p < 8; p++) {
            x.person(p % 6, p);
        }
        x.image();
        check.due("undo() to all", x.undo(), 8);
        check.due("a 9th", x.person(0, 0), Check.FULL);
    }

    /** "It becomes what was kept latest (which stays)" */
    private static void undoOfTheLatestWhichStays() {
        HushAtFour x = new HushAtFour();
        x.image();
        x.noise(0, 1);
        x.image();
        x.noise(0, 2);
        x.image();
        x.noise(0, 3);
        for (int i = 0; i < 3; i++) {
            check.due("undo() " + i, x.undo(), 0);
            check.due("NOISE behind it", x.noise(0, 4 + i), 2);
        }
        check.due("tear() of all three", x.tear(), 1);
        check.due("undo()", x.undo(), Check.NONE);
        check.due("NOISE stays", x.house(0, 0), 6);
    }

    /** "NONE: nothing is kept." */
    private static void undoOfNothing() {
        edge.refuses("undo() of a new one", HushAtFour::new, x -> x.undo(), Check.NONE);
        edge.refuses("undo() behind tear()", ImagesEdgeTest::torn, x -> x.undo(), Check.NONE);
        edge.takes("undo() of one kept again", ImagesEdgeTest::torn, x -> x.image() + x.undo(), 1 + 8);
    }

    private static HushAtFour torn() {
        HushAtFour x = Edge.full();
        x.tear();
        return x;
    }

    /** "Nothing is kept: 1 if something was, else 0." */
    private static void tears() {
        edge.takes("tear() of nothing", HushAtFour::new, x -> x.tear(), 0);
        edge.takes("tear()", Edge::full, x -> x.tear(), 1);
        edge.takes("tear() again", ImagesEdgeTest::torn, x -> x.tear(), 0);
        HushAtFour x = new HushAtFour();
        x.undo();
        check.due("tear() behind undo() of nothing", x.tear(), 0);
        x.image();
        x.undo();
        check.due("tear() behind undo()", x.tear(), 1);
        check.due("MINUTE stays", torn().now(0), 136);
    }

    /** "0 PEOPLE, 1 bytes of THE TAPE, 2 NOISE .., 3 QUIET ... BEYOND: another what." */
    private static void counts() {
        edge.range("count", Edge::full, (x, v) -> x.count(v), Edge.from(0, 3), 8, 828);
        edge.takes("count(1)", Edge::full, x -> x.count(1), 16);
        edge.takes("count(2)", Edge::full, x -> x.count(2), 88 + 17 + 11);
    }

    private static void countsFromNoneToMost() {
        HushAtFour x = new HushAtFour();
        for (int house = 0; house < 30; house++) {
            x.noise(house, 0);
        }
        for (int what = 0; what <= 3; what++) {
            check.due("count(" + what + ") of none", x.count(what), 0);
        }
        for (int house = 0; house < 30; house++) {
            x.noise(house, 20);
            x.feed(0, 4);
        }
        for (int p = 0; p < 8; p++) {
            x.person(0, 0);
            x.set(p, 2, 9999);
        }
        check.due("most count(0)", x.count(0), 8);
        check.due("most count(1)", x.count(1), 120);
        check.due("most count(2)", x.count(2), 600);
        check.due("most count(3)", x.count(3), 79992);
    }

    /** "which -1: all, 0 to 6: BEYOND to SIZE. BEYOND (counted from then on): another one." */
    private static void statusTellsEight() {
        edge.range("status", Edge::full, (x, v) -> x.status(v), Edge.from(-1, 6), 5, 1);
        edge.range("status of none", HushAtFour::new, (x, v) -> x.status(v), Edge.from(-1, 6), 0, 0);
    }

    /** "How many acts answered a finding ever": each call that answers one is counted once, where it belongs. */
    private static void statusOfEachFinding() {
        Edge.Call[] calls = {
            x -> x.noise(30, 0), x -> x.person(0, 0), x -> x.as(0, 1), x -> x.catches(0), x -> x.minutes(2),
            x -> x.write(0, 0, 0), x -> x.sheet(0, 0, -1)};
        HushAtFour x = new HushAtFour();
        for (int p = 0; p < 8; p++) {
            x.person(0, 9);
        }
        x.hush(1, 0);
        for (int which = 0; which <= 6; which++) {
            for (int times = 0; which != 4 && times <= which; times++) {
                check.due("call for " + which, calls[which].on(x), Check.BEYOND - which);
            }
        }
        int all = 0;
        for (int which = 0; which <= 6; which++) {
            check.due("status(" + which + ")", x.status(which), which == 4 ? 0 : which + 1);
            all += which == 4 ? 0 : which + 1;
        }
        check.due("status(-1)", x.status(-1), all);
        x.image();
        x.noise(30, 0);
        x.undo();
        check.due("status(0): undo() takes none back", x.status(0), 2);
        x.tear();
        x.wipe();
        check.due("status(-1): nothing does", x.status(-1), all + 1);
    }

    /** "With a FAULT: -1 less its place (..; no finding)." */
    private static void statusCountsNoFault() {
        HushAtFour x = new HushAtFour();
        check.due("town() of nothing", x.town(), -1);
        check.due("town() of a fault", Check.town(x, "dog dog"), -5);
        check.due("status(-1)", x.status(-1), 0);
    }

    private static void statusIsCountedFromThenOn() {
        HushAtFour x = new HushAtFour();
        check.due("status(7)", x.status(7), Check.BEYOND);
        check.due("status(0)", x.status(0), 1);
        check.due("status(-2)", x.status(-2), Check.BEYOND);
        check.due("status(0)", x.status(0), 2);
        check.due("status(-1)", x.status(-1), 2);
        check.due("status(6)", x.status(6), 0);
    }
}
