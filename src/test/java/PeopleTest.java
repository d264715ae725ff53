/** Promises 6 to 10: person, of, set, turn, as. */
public final class PeopleTest {
    private static final int WALKER = 0;
    private static final int PEDLAR = 1;
    private static final int CHILD = 2;
    private static final int DOG = 3;
    private static final int DOCTOR = 4;
    private static final int RUNNER = 5;
    private static final Check check = new Check("PeopleTest");

    public static void main(String[] args) {
        persons();
        goesWithoutAHush();
        goesWithAHush();
        talks();
        stepsOver();
        wasInIt();
        ofRefuses();
        sets();
        turns();
        asOneOfAKind();
        check.end();
    }

    private static void persons() {
        HushAtFour x = new HushAtFour();
        check.refused("person(-1, 0)", x, () -> x.person(-1, 0), Check.BEYOND);
        check.refused("person(6, 0)", x, () -> x.person(6, 0), Check.BEYOND);
        check.refused("person(0, -1)", x, () -> x.person(0, -1), Check.BEYOND);
        check.refused("person(0, 30)", x, () -> x.person(0, 30), Check.BEYOND);
        for (int p = 0; p < 8; p++) {
            check.due("person " + p, x.person(p % 6, 29 - p), p);
            check.due("KIND of " + p, x.of(p, 0), p % 6);
            check.due("house of " + p, x.of(p, 1), 29 - p);
            check.due("QUIET of " + p, x.of(p, 2), 0);
            check.due("CAUGHT of " + p, x.of(p, 3), 0);
            check.due("WAS of " + p, x.of(p, 7), 0);
        }
        check.refused("a 9th", x, () -> x.person(0, 0), Check.FULL);
        check.refused("a 9th of no kind", x, () -> x.person(6, 0), Check.BEYOND);
        check.refused("a 9th at no house", x, () -> x.person(0, 30), Check.BEYOND);
    }

    private static int goes(int kind, int house, HushAtFour x) {
        x.turn(0, kind);
        x.set(0, 1, house);
        return x.of(0, 4) - 100;
    }

    private static void goesWithoutAHush() {
        HushAtFour x = new HushAtFour();
        x.person(0, 0);
        for (int kind = 0; kind < 6; kind++) {
            check.due("without one, kind " + kind, goes(kind, 12, x), kind == DOG ? -1 : 0);
            check.due("without one at 0, kind " + kind, goes(kind, 0, x), kind == DOG ? -1 : 0);
        }
    }

    /** EDGE is 12, PACE 2, WIDE 3, and the minute of the day is 36. */
    private static HushAtFour atEdge12() {
        HushAtFour x = new HushAtFour();
        x.person(0, 0);
        x.hush(2, 2);
        x.minutes(36);
        return x;
    }

    private static void goesWithAHush() {
        check.due("EDGE", atEdge12().now(2), 13);
        for (int house = 0; house < 30; house++) {
            HushAtFour x = atEdge12();
            boolean isIn = house >= 10 && house <= 12;
            boolean isJustAhead = house >= 12 && house <= 15;
            String at = " at " + house;
            check.due("walker" + at, goes(WALKER, house, x), 0);
            check.due("pedlar" + at, goes(PEDLAR, house, x), isIn ? 2 : 0);
            check.due("child" + at, goes(CHILD, house, x), isJustAhead ? 2 : 0);
            check.due("dog" + at, goes(DOG, house, x), Math.max(-4, Math.min(4, 12 - house)));
            check.due("doctor" + at, goes(DOCTOR, house, x), isIn ? 2 : 0);
            check.due("runner" + at, goes(RUNNER, house, x), house == 12 ? 3 : isJustAhead ? 2 : 0);
        }
        HushAtFour x = atEdge12();
        x.hush(0, 29);
        x.set(0, 1, 29);
        x.minutes(4);
        check.due("EDGE in minute 40", x.now(2), 23);
        check.due("pedlar in minute 40", goes(PEDLAR, 22, x), 2);
        check.due("doctor in minute 40", goes(DOCTOR, 22, x), 0);
    }

    private static void talks() {
        HushAtFour x = new HushAtFour();
        x.person(0, 9);
        int[] withBell = {2, 5, 4, 1, 6, 3};
        for (int kind = 0; kind < 6; kind++) {
            x.turn(0, kind);
            check.due("minute 0, kind " + kind, x.of(0, 5), withBell[kind]);
        }
        x.minutes(1);
        x.turn(0, DOCTOR);
        check.due("doctor in minute 1", x.of(0, 5), 5);
        x.hush(0, 1);
        x.set(0, 1, 0);
        for (int kind = 0; kind < 6; kind++) {
            x.turn(0, kind);
            check.due("in it in minute 1, kind " + kind, x.of(0, 5), 0);
        }
        x.turn(0, WALKER);
        x.minutes(4);
        x.hush(0, 5);
        for (int kind = 0; kind < 6; kind++) {
            x.turn(0, kind);
            x.set(0, 1, 0);
            check.due("in it in minute 5, kind " + kind, x.of(0, 5), kind == DOCTOR ? 1 : 0);
            check.due("HEARD in minute 5, kind " + kind, x.now(3), 88 + (kind == DOCTOR ? 1 : 0));
        }
    }

    private static void stepsOver() {
        HushAtFour x = new HushAtFour();
        x.person(0, 9);
        int[] from = {3, 10000, 3, 0, 10000, 1};
        int[] tried = {0, 1, 2, 3, 4, 9999};
        for (int kind = 0; kind < 6; kind++) {
            x.turn(0, kind);
            for (int c : tried) {
                x.set(0, 3, c);
                check.due("kind " + kind + " caught " + c, x.of(0, 6), c >= from[kind] ? 1 : 0);
            }
        }
    }

    private static void wasInIt() {
        HushAtFour x = new HushAtFour();
        x.person(WALKER, 0);
        x.minutes(30);
        check.due("in it now, but WAS not", x.of(0, 7), 0);
        x.minutes(1);
        check.due("WAS in it", x.of(0, 7), 1);
        x.person(WALKER, 0);
        check.due("one that came since", x.of(1, 7), 0);
        x.set(0, 1, 20);
        check.due("WAS stays when it is set elsewhere", x.of(0, 7), 1);
        x.minutes(1);
        check.due("WAS no more", x.of(0, 7), 0);
        check.due("the other WAS", x.of(1, 7), 1);
        check.due("the other was caught", x.of(1, 3), 1);
    }

    private static void ofRefuses() {
        HushAtFour x = new HushAtFour();
        check.refused("of(0, 0) of nobody", x, () -> x.of(0, 0), Check.BEYOND);
        x.person(0, 0);
        check.refused("of(1, 0)", x, () -> x.of(1, 0), Check.BEYOND);
        check.refused("of(-1, 0)", x, () -> x.of(-1, 0), Check.BEYOND);
        check.refused("of(0, 8)", x, () -> x.of(0, 8), Check.BEYOND);
        check.refused("of(0, -1)", x, () -> x.of(0, -1), Check.BEYOND);
    }

    private static void sets() {
        HushAtFour x = new HushAtFour();
        check.refused("set of nobody", x, () -> x.set(0, 1, 0), Check.BEYOND);
        x.person(WALKER, 4);
        int[] first = {0, 4, 0, 0};
        int[] most = {0, 29, 9999, 9999};
        for (int what = 1; what <= 3; what++) {
            int w = what;
            check.due("set(0, " + w + ", most)", x.set(0, w, most[w]), first[w]);
            check.due("of(0, " + w + ")", x.of(0, w), most[w]);
            check.refused("set(0, " + w + ", above)", x, () -> x.set(0, w, most[w] + 1), Check.BEYOND);
            check.refused("set(0, " + w + ", -1)", x, () -> x.set(0, w, -1), Check.BEYOND);
            check.due("set(0, " + w + ", 0)", x.set(0, w, 0), most[w]);
        }
        check.refused("set(0, 0, 0)", x, () -> x.set(0, 0, 0), Check.BEYOND);
        check.refused("set(0, 4, 0)", x, () -> x.set(0, 4, 0), Check.BEYOND);
        check.refused("set(-1, 1, 0)", x, () -> x.set(-1, 1, 0), Check.BEYOND);
        check.refused("set(1, 1, 0)", x, () -> x.set(1, 1, 0), Check.BEYOND);
    }

    private static void turns() {
        HushAtFour x = new HushAtFour();
        check.refused("turn of nobody", x, () -> x.turn(0, 0), Check.BEYOND);
        x.person(WALKER, 4);
        x.set(0, 2, 17);
        check.due("turn(0, 5)", x.turn(0, 5), 0);
        check.due("turn(0, 1)", x.turn(0, 1), 5);
        check.due("turn(0, 1) again", x.turn(0, 1), 1);
        check.due("KIND", x.of(0, 0), 1);
        check.due("house stays", x.of(0, 1), 4);
        check.due("QUIET stays", x.of(0, 2), 17);
        check.refused("turn(0, 6)", x, () -> x.turn(0, 6), Check.BEYOND);
        check.refused("turn(0, -1)", x, () -> x.turn(0, -1), Check.BEYOND);
        check.refused("turn(1, 0)", x, () -> x.turn(1, 0), Check.BEYOND);
    }

    private static void asOneOfAKind() {
        HushAtFour x = new HushAtFour();
        check.refused("as of nobody", x, () -> x.as(0, 0), Check.BEYOND);
        String[] above = {"0", "01", "02", "03", "014", "025"};
        for (int p = 0; p < 6; p++) {
            int person = p;
            x.person(p, 0);
            x.set(p, 2, 10 + p);
            for (int k = 0; k < 6; k++) {
                int kind = k;
                if (above[p].indexOf('0' + k) >= 0) {
                    check.due("as(" + p + ", " + k + ")", x.as(p, k), 10 + p);
                } else {
                    check.refused("as(" + p + ", " + k + ")", x, () -> x.as(person, kind), Check.KIND);
                }
            }
        }
        check.refused("as(6, 0)", x, () -> x.as(6, 0), Check.BEYOND);
        check.refused("as(-1, 9)", x, () -> x.as(-1, 9), Check.BEYOND);
        check.refused("as(0, 6)", x, () -> x.as(0, 6), Check.BEYOND);
        check.refused("as(0, -1)", x, () -> x.as(0, -1), Check.BEYOND);
    }
}
