/** Promises 17 to 23: where, kind, wide, pace, four, still, quietest. */
public final class BestTest {
    private static final Check check = new Check("BestTest");

    public static void main(String[] args) {
        where();
        kind();
        wide();
        pace();
        four();
        still();
        quietest();
        nothingChanges();
        check.end();
    }

    private static void where() {
        HushAtFour x = new HushAtFour();
        check.refused("where(0, 1) of nobody", x, () -> x.where(0, 1), Check.BEYOND);
        x.person(0, 9);
        check.due("where(0, 30), when none is in it", x.where(0, 30), 0);
        check.due("where(0, 31)", x.where(0, 31), 0);
        check.due("where(0, 200)", x.where(0, 200), 0);
        x.minutes(40);
        // EDGE is 10: house 10 has three minutes more of it, house 9 two.
        check.due("where(0, 1)", x.where(0, 1), 8);
        check.due("where(0, 2)", x.where(0, 2), 9);
        check.due("where(0, 3)", x.where(0, 3), 10);
        x.turn(0, 1);
        check.due("where(0, 10) as a pedlar", x.where(0, 10), 8);
        x.set(0, 2, 9999);
        check.due("where(0, 3) when QUIET is held", x.where(0, 3), 0);
        check.refused("where(1, 1)", x, () -> x.where(1, 1), Check.BEYOND);
        check.refused("where(0, 0)", x, () -> x.where(0, 0), Check.BEYOND);
        check.refused("where(0, 201)", x, () -> x.where(0, 201), Check.BEYOND);
        check.refused("where(-1, 201)", x, () -> x.where(-1, 201), Check.BEYOND);
    }

    private static void kind() {
        HushAtFour x = new HushAtFour();
        check.refused("kind(0, 1) of nobody", x, () -> x.kind(0, 1), Check.BEYOND);
        x.person(4, 0);
        check.due("kind(0, 30), when none is in it", x.kind(0, 30), 0);
        check.due("kind(0, 33)", x.kind(0, 33), 0);
        check.due("kind(0, 34)", x.kind(0, 34), 1);
        x.set(0, 1, 29);
        check.due("kind(0, 35): a dog runs to it", x.kind(0, 35), 3);
        check.due("kind(0, 200)", x.kind(0, 200), 3);
        check.refused("kind(1, 1)", x, () -> x.kind(1, 1), Check.BEYOND);
        check.refused("kind(-1, 1)", x, () -> x.kind(-1, 1), Check.BEYOND);
        check.refused("kind(0, 0)", x, () -> x.kind(0, 0), Check.BEYOND);
        check.refused("kind(0, 201)", x, () -> x.kind(0, 201), Check.BEYOND);
    }

    private static void wide() {
        HushAtFour x = new HushAtFour();
        check.due("wide(100) with nobody", x.wide(100), 10);
        x.person(0, 9);
        check.due("wide(30)", x.wide(30), 10);
        check.due("wide(39)", x.wide(39), 10);
        check.due("wide(40)", x.wide(40), 0);
        x.minutes(43);
        // EDGE is 13: 4 wide it takes 10 to 13, and 5 wide the walker.
        check.due("wide(1)", x.wide(1), 4);
        x.person(3, 13);
        check.due("wide(1) with a dog, who steps over", x.wide(1), 4);
        x.set(0, 3, 3);
        check.due("wide(1) with one who steps over", x.wide(1), 10);
        x.turn(0, 1);
        check.due("wide(1) with a pedlar", x.wide(1), 4);
        x.set(0, 3, 9999);
        check.due("wide(1) when CAUGHT is held", x.wide(1), 10);
        check.refused("wide(0)", x, () -> x.wide(0), Check.BEYOND);
        check.refused("wide(101)", x, () -> x.wide(101), Check.BEYOND);
        check.refused("wide(-1)", x, () -> x.wide(-1), Check.BEYOND);
    }

    private static void pace() {
        HushAtFour x = new HushAtFour();
        check.due("pace(100) with nobody", x.pace(100), 1);
        x.person(0, 12);
        check.due("pace(30)", x.pace(30), 1);
        // By pace 4 EDGE is 12 in minute 33, by pace 5 it is 15 and takes 13 to 15.
        check.due("pace(34)", x.pace(34), 4);
        check.due("pace(100)", x.pace(100), 1);
        x.person(0, 10);
        x.person(0, 10);
        check.due("pace(33)", x.pace(33), 5);
        check.refused("pace(0)", x, () -> x.pace(0), Check.BEYOND);
        check.refused("pace(101)", x, () -> x.pace(101), Check.BEYOND);
    }

    private static void four() {
        HushAtFour x = new HushAtFour();
        // In minute 0 there is one only by FOUR 0, and it takes house 0, whose NOISE is 0.
        check.due("four(0), all alike", x.four(0), 0);
        x.minutes(10);
        // Houses 3 to 5 have 13 of NOISE: as do no three less far; EDGE is 5 by FOUR 5.
        check.due("four(0) in minute 10", x.four(0), 5);
        check.due("four(1)", x.four(1), 6);
        x.person(0, 10);
        x.person(0, 10);
        x.person(0, 10);
        check.due("four(2) with walkers at 10", x.four(2), 0);
        check.due("four(100)", x.four(100), 0);
        check.refused("four(-1)", x, () -> x.four(-1), Check.BEYOND);
        check.refused("four(101)", x, () -> x.four(101), Check.BEYOND);
    }

    private static void still() {
        HushAtFour x = new HushAtFour();
        check.due("still(0)", x.still(0), 5);
        check.due("still(35), when 5 is taken", x.still(35), 12);
        check.due("still(38)", x.still(38), 5);
        x.noise(20, 19);
        check.due("still(100)", x.still(100), 20);
        check.due("still(50), when 20 is taken", x.still(50), 5);
        for (int house = 0; house < 30; house++) {
            x.noise(house, 0);
        }
        check.due("still(0), all alike", x.still(0), 0);
        x.noise(6, 7);
        check.due("still(36), all alike, 6 being taken", x.still(36), 0);
        check.due("still(39)", x.still(39), 6);
        x.noise(6, 0);
        x.noise(0, 7);
        check.due("still(30), all alike", x.still(30), 0);
        check.refused("still(-1)", x, () -> x.still(-1), Check.BEYOND);
        check.refused("still(101)", x, () -> x.still(101), Check.BEYOND);
    }

    private static void quietest() {
        HushAtFour x = new HushAtFour();
        check.refused("quietest(0) of nobody", x, () -> x.quietest(0), Check.NONE);
        check.refused("quietest(401) of nobody", x, () -> x.quietest(401), Check.BEYOND);
        check.refused("quietest(-1)", x, () -> x.quietest(-1), Check.BEYOND);
        x.person(0, 9);
        x.person(1, 0);
        x.person(1, 0);
        check.due("quietest(30), all alike", x.quietest(30), 0);
        check.due("quietest(31)", x.quietest(31), 1);
        check.due("quietest(400)", x.quietest(400), 1);
        x.set(2, 2, 5);
        check.due("quietest(0)", x.quietest(0), 2);
        x.set(0, 2, 9999);
        x.set(1, 2, 9990);
        check.due("quietest(400), held", x.quietest(400), 0);
    }

    private static void nothingChanges() {
        HushAtFour x = new HushAtFour();
        for (int kind = 0; kind < 6; kind++) {
            x.person(kind, 3 * kind);
        }
        x.minutes(33);
        String before = Check.look(x);
        x.where(1, 200);
        x.kind(1, 200);
        x.wide(100);
        x.pace(100);
        x.four(100);
        x.still(100);
        x.quietest(400);
        check.same("what is best changes nothing", Check.look(x), before);
    }
}
