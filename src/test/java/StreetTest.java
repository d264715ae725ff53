/** Promises 1 to 5: a new object, noise, hush, house, now. */
public final class StreetTest {
    private static final Check check = new Check("StreetTest");

    public static void main(String[] args) {
        newObject();
        noise();
        hush();
        houseTaken();
        houseOfPeople();
        houseRefuses();
        nowOfEverything();
        edgesOfTheHush();
        check.end();
    }

    private static void newObject() {
        HushAtFour x = new HushAtFour();
        int[] now = {0, 0, 0, 88, 0, 30, 3, 1};
        for (int what = 0; what < now.length; what++) {
            check.due("new now(" + what + ")", x.now(what), now[what]);
        }
        int[] firstNoises = {0, 4, 1, 5, 2, 6, 3};
        for (int house = 0; house < 30; house++) {
            check.due("new house(" + house + ", 0)", x.house(house, 0), firstNoises[house % 7]);
            check.due("new house(" + house + ", 1)", x.house(house, 1), 0);
            check.due("new house(" + house + ", 2)", x.house(house, 2), 0);
        }
        check.due("new count(0)", x.count(0), 0);
        check.due("new count(1)", x.count(1), 0);
        check.due("new count(2)", x.count(2), 88);
        check.due("new count(3)", x.count(3), 0);
        check.due("new status(-1)", x.status(-1), 0);
        check.due("new tear()", x.tear(), 0);
        check.due("new undo()", x.undo(), Check.NONE);
        for (int s = 0; s < 4; s++) {
            check.due("new write(" + s + ", 0, 1)", x.write(s, 0, 1), Check.MISSING);
        }
    }

    private static void noise() {
        HushAtFour x = new HushAtFour();
        check.due("noise(5, 20)", x.noise(5, 20), 6);
        check.due("noise(5, 0)", x.noise(5, 0), 20);
        check.due("noise(29, 1)", x.noise(29, 1), 4);
        check.due("house(29, 0)", x.house(29, 0), 1);
        check.due("count(2)", x.count(2), 88 - 6 - 3);
        check.refused("noise(-1, 0)", x, () -> x.noise(-1, 0), Check.BEYOND);
        check.refused("noise(30, 0)", x, () -> x.noise(30, 0), Check.BEYOND);
        check.refused("noise(0, -1)", x, () -> x.noise(0, -1), Check.BEYOND);
        check.refused("noise(0, 21)", x, () -> x.noise(0, 21), Check.BEYOND);
        check.refused("noise(min, max)", x, () -> x.noise(Integer.MIN_VALUE, Integer.MAX_VALUE), Check.BEYOND);
    }

    private static void hush() {
        HushAtFour x = new HushAtFour();
        int[] first = {30, 3, 1};
        int[] least = {0, 0, 1};
        int[] most = {99, 10, 5};
        for (int what = 0; what < 3; what++) {
            int w = what;
            check.due("hush(" + w + ", most)", x.hush(w, most[w]), first[w]);
            check.due("now of " + w, x.now(5 + w), most[w]);
            check.due("hush(" + w + ", least)", x.hush(w, least[w]), most[w]);
            check.due("now of " + w, x.now(5 + w), least[w]);
            check.refused("hush(" + w + ", above)", x, () -> x.hush(w, most[w] + 1), Check.BEYOND);
            check.refused("hush(" + w + ", below)", x, () -> x.hush(w, least[w] - 1), Check.BEYOND);
        }
        check.refused("hush(3, 1)", x, () -> x.hush(3, 1), Check.BEYOND);
        check.refused("hush(-1, 1)", x, () -> x.hush(-1, 1), Check.BEYOND);
    }

    private static void houseTaken() {
        HushAtFour x = new HushAtFour();
        x.minutes(34);
        for (int house = 0; house < 30; house++) {
            check.due("EDGE 4: house(" + house + ", 1)", x.house(house, 1), house >= 2 && house <= 4 ? 1 : 0);
        }
        x.hush(1, 10);
        check.due("10 wide: house(0, 1)", x.house(0, 1), 1);
        check.due("10 wide: house(4, 1)", x.house(4, 1), 1);
        check.due("10 wide: house(5, 1)", x.house(5, 1), 0);
        x.hush(1, 0);
        check.due("0 wide: house(4, 1)", x.house(4, 1), 0);
        check.due("0 wide: now(2)", x.now(2), 0);
        x.hush(1, 1);
        check.due("1 wide: house(4, 1)", x.house(4, 1), 1);
        check.due("1 wide: house(3, 1)", x.house(3, 1), 0);
    }

    private static void houseOfPeople() {
        HushAtFour x = new HushAtFour();
        x.person(0, 7);
        x.person(3, 29);
        x.person(5, 7);
        check.due("house(7, 2)", x.house(7, 2), 5);
        check.due("house(29, 2)", x.house(29, 2), 2);
        check.due("house(0, 2)", x.house(0, 2), 0);
    }

    private static void houseRefuses() {
        HushAtFour x = new HushAtFour();
        check.refused("house(-1, 0)", x, () -> x.house(-1, 0), Check.BEYOND);
        check.refused("house(30, 0)", x, () -> x.house(30, 0), Check.BEYOND);
        check.refused("house(0, -1)", x, () -> x.house(0, -1), Check.BEYOND);
        check.refused("house(0, 3)", x, () -> x.house(0, 3), Check.BEYOND);
    }

    private static void nowOfEverything() {
        HushAtFour x = new HushAtFour();
        x.person(0, 1);
        x.person(1, 0);
        x.person(4, 5);
        x.minutes(131 - 100);
        check.due("now(0)", x.now(0), 31);
        check.due("now(2)", x.now(2), 2);
        check.due("now(4)", x.now(4), 3);
        // Houses 0 and 1 (0 and 4) are taken, the two in it don't talk, the doctor has no bell in minute 31.
        check.due("now(3)", x.now(3), 88 - 4 + 5);
        x.minutes(100);
        check.due("now(0) a day on", x.now(0), 131);
        check.due("now(1) a day on", x.now(1), 31);
        check.refused("now(8)", x, () -> x.now(8), Check.BEYOND);
        check.refused("now(-1)", x, () -> x.now(-1), Check.BEYOND);
    }

    private static void edgesOfTheHush() {
        HushAtFour x = new HushAtFour();
        x.hush(0, 0);
        x.hush(1, 10);
        x.hush(2, 5);
        x.minutes(7);
        check.due("EDGE 35", x.now(2), 36);
        check.due("EDGE 35: house(26, 1)", x.house(26, 1), 1);
        check.due("EDGE 35: house(25, 1)", x.house(25, 1), 0);
        x.minutes(1);
        check.due("EDGE 40 is out", x.now(2), 0);
        x.hush(2, 1);
        check.due("EDGE 8", x.now(2), 9);
        x.minutes(30);
        check.due("EDGE 38, the last", x.now(2), 39);
        check.due("EDGE 38: house(29, 1)", x.house(29, 1), 1);
        x.minutes(1);
        check.due("EDGE 39 is out", x.now(2), 0);
        x.hush(0, 39);
        check.due("at FOUR", x.now(2), 1);
        x.hush(0, 40);
        check.due("ahead of FOUR", x.now(2), 0);
    }
}
