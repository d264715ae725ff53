/** Promises 11 to 16: minutes, on, heard, reaches, catches, out. */
public final class MinutesTest {
    private static final Check check = new Check("MinutesTest");

    public static void main(String[] args) {
        aWalkerIsCaughtEveryDay();
        aPedlarTravelsInIt();
        aDogGoesAlong();
        heldAtTheEndsAndAt9999();
        minutesRefuse();
        lastMinutes();
        on();
        heard();
        reaches();
        catches();
        out();
        check.end();
    }

    private static void aWalkerIsCaughtEveryDay() {
        HushAtFour x = new HushAtFour();
        x.person(0, 5);
        check.due("minutes(35)", x.minutes(35), 1);
        check.due("QUIET ahead", x.of(0, 2), 0);
        check.due("minutes(2)", x.minutes(2), 1);
        check.due("minutes(1)", x.minutes(1), 0);
        check.due("QUIET behind", x.of(0, 2), 3);
        check.due("CAUGHT behind", x.of(0, 3), 1);
        for (int day = 2; day <= 6; day++) {
            x.minutes(100);
            check.due("QUIET on day " + day, x.of(0, 2), 3 * day);
            check.due("CAUGHT on day " + day, x.of(0, 3), Math.min(3, day));
        }
    }

    private static void aPedlarTravelsInIt() {
        HushAtFour x = new HushAtFour();
        x.person(1, 0);
        x.person(4, 0);
        x.minutes(40);
        check.due("house of the pedlar", x.of(0, 1), 10);
        check.due("QUIET of the pedlar", x.of(0, 2), 10);
        check.due("CAUGHT of the pedlar", x.of(0, 3), 1);
        // The doctor stood still in the minutes 30 and 35.
        check.due("house of the doctor", x.of(1, 1), 8);
        check.due("QUIET of the doctor", x.of(1, 2), 10);
        check.due("minutes(1)", x.minutes(1), 1);
    }

    private static void aDogGoesAlong() {
        HushAtFour x = new HushAtFour();
        x.person(3, 20);
        x.minutes(30);
        check.due("back to the west without one", x.of(0, 1), 0);
        x.minutes(10);
        check.due("at its edge, a minute behind", x.of(0, 1), 9);
        check.due("QUIET", x.of(0, 2), 10);
        check.due("never CAUGHT", x.of(0, 3), 0);
        x.minutes(20);
        check.due("held at 29", x.of(0, 1), 29);
    }

    private static void heldAtTheEndsAndAt9999() {
        HushAtFour x = new HushAtFour();
        x.person(1, 0);
        x.set(0, 2, 9998);
        x.set(0, 3, 9999);
        x.minutes(33);
        check.due("QUIET held", x.of(0, 2), 9999);
        check.due("CAUGHT held", x.of(0, 3), 9999);
        x.hush(2, 5);
        x.hush(0, 28);
        x.set(0, 1, 24);
        check.due("EDGE", x.now(2), 26);
        x.minutes(1);
        check.due("house held", x.of(0, 1), 29);
    }

    private static void minutesRefuse() {
        HushAtFour x = new HushAtFour();
        x.person(0, 0);
        for (int n : new int[] {0, -1, 201, Integer.MAX_VALUE, Integer.MIN_VALUE}) {
            check.refused("minutes(" + n + ")", x, () -> x.minutes(n), Check.BEYOND);
        }
        x.minutes(200);
        check.due("now(0)", x.now(0), 200);
    }

    private static void lastMinutes() {
        HushAtFour x = new HushAtFour();
        x.person(3, 0);
        for (int i = 0; i < 499; i++) {
            x.minutes(200);
        }
        check.due("now(0)", x.now(0), 99800);
        check.due("minutes(200) at 99800", x.minutes(200), Check.STATE);
        check.due("minutes(201) at 99800", x.minutes(201), Check.BEYOND);
        x.minutes(199);
        check.due("now(0)", x.now(0), 99999);
        check.due("minutes(1) at 99999", x.minutes(1), Check.STATE);
        check.due("ON goes further", x.reaches(0), 31);
        check.due("ON goes further", x.on(0, 41, 0), 9);
    }

    private static void on() {
        HushAtFour x = new HushAtFour();
        x.person(0, 29);
        x.person(1, 0);
        String before = Check.look(x);
        check.due("on(1, 0, 0)", x.on(1, 0, 0), 0);
        check.due("on(1, 40, 0)", x.on(1, 40, 0), 10);
        check.due("on(1, 40, 1)", x.on(1, 40, 1), 10);
        check.due("on(1, 40, 2)", x.on(1, 40, 2), 1);
        check.due("on(0, 59, 2)", x.on(0, 59, 2), 0);
        check.due("on(0, 400, 1)", x.on(0, 400, 1), 12);
        check.due("on(0, 400, 2)", x.on(0, 400, 2), 3);
        check.same("ON changes nothing", Check.look(x), before);
        x.minutes(31);
        check.due("on(1, 1, 2) of one that WAS in it", x.on(1, 1, 2), 1);
        x.set(1, 1, 29);
        check.due("on(1, 40, 2) of one that goes into it once more", x.on(1, 40, 2), 2);
        check.refused("on(2, 0, 0)", x, () -> x.on(2, 0, 0), Check.BEYOND);
        check.refused("on(-1, 0, 0)", x, () -> x.on(-1, 0, 0), Check.BEYOND);
        check.refused("on(0, -1, 0)", x, () -> x.on(0, -1, 0), Check.BEYOND);
        check.refused("on(0, 401, 0)", x, () -> x.on(0, 401, 0), Check.BEYOND);
        check.refused("on(0, 0, 3)", x, () -> x.on(0, 0, 3), Check.BEYOND);
        check.refused("on(0, 0, -1)", x, () -> x.on(0, 0, -1), Check.BEYOND);
    }

    private static void heard() {
        HushAtFour x = new HushAtFour();
        check.due("heard(0)", x.heard(0), 88);
        // Houses 3, 4, 5 with 5, 2, 6 are taken.
        check.due("heard(35)", x.heard(35), 75);
        x.person(0, 3);
        x.person(2, 20);
        check.due("heard(35) with people", x.heard(35), 75 + 4);
        check.due("heard(400)", x.heard(400), 94);
        String before = Check.look(x);
        x.heard(77);
        check.same("heard changes nothing", Check.look(x), before);
        check.refused("heard(-1)", x, () -> x.heard(-1), Check.BEYOND);
        check.refused("heard(401)", x, () -> x.heard(401), Check.BEYOND);
    }

    private static void reaches() {
        HushAtFour x = new HushAtFour();
        check.due("reaches(0)", x.reaches(0), 30);
        check.due("reaches(29)", x.reaches(29), 59);
        x.minutes(45);
        check.due("reaches(13) in it", x.reaches(13), 0);
        check.due("reaches(12) of the next day", x.reaches(12), 97);
        x.hush(2, 5);
        x.hush(1, 1);
        check.due("reaches(0)", x.reaches(0), 85);
        check.due("reaches(10)", x.reaches(10), 87);
        check.refused("reaches(11), which it leaps over", x, () -> x.reaches(11), Check.NONE);
        x.hush(1, 0);
        check.refused("reaches(0), 0 wide", x, () -> x.reaches(0), Check.NONE);
        check.refused("reaches(-1)", x, () -> x.reaches(-1), Check.BEYOND);
        check.refused("reaches(30)", x, () -> x.reaches(30), Check.BEYOND);
    }

    private static void catches() {
        HushAtFour x = new HushAtFour();
        check.refused("catches(0) of nobody", x, () -> x.catches(0), Check.BEYOND);
        x.person(0, 7);
        x.person(2, 0);
        check.due("catches(0)", x.catches(0), 37);
        check.due("catches(1)", x.catches(1), 30);
        x.minutes(38);
        check.due("catches(0) in it", x.catches(0), 0);
        x.hush(1, 1);
        x.hush(2, 5);
        check.refused("catches(0), which it leaps over", x, () -> x.catches(0), Check.NONE);
        check.refused("catches(2)", x, () -> x.catches(2), Check.BEYOND);
        check.refused("catches(-1)", x, () -> x.catches(-1), Check.BEYOND);
    }

    private static void out() {
        HushAtFour x = new HushAtFour();
        check.due("out() ahead of four", x.out(), 0);
        x.minutes(31);
        check.due("out() in it", x.out(), 31);
        x.hush(2, 5);
        check.due("out(), pace 5", x.out(), 6);
        x.hush(1, 0);
        check.due("out(), 0 wide", x.out(), 0);
        x.hush(1, 1);
        x.hush(2, 1);
        x.hush(0, 99);
        x.minutes(68);
        check.due("in the last minute of the day", x.now(2), 1);
        check.due("out() with the day", x.out(), 1);
    }
}
