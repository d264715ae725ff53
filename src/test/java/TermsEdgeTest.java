/** What the document's Terms say of bounds: of the findings, MINUTES, THE HUSH, PEOPLE and ON. */
public final class TermsEdgeTest {
    private static final int WALKER = 0;
    private static final int PEDLAR = 1;
    private static final int CHILD = 2;
    private static final int DOG = 3;
    private static final int DOCTOR = 4;
    private static final int RUNNER = 5;
    private static final Check check = new Check("TermsEdgeTest");

    public static void main(String[] args) {
        findings();
        minuteOfTheDayWrapsAround();
        firstNoise();
        theHushOfEveryWidthAndPace();
        theHushOfTheSameDay();
        pedlarGoes();
        childAndRunnerGo();
        dogGoes();
        doctorGoesByTheBell();
        allGoWithoutOne();
        talksInAndOut();
        doctorTalksByTheBell();
        stepsOverByHowOften();
        caughtByHowOften();
        quietIsHeld();
        caughtIsHeld();
        caughtAgainAndOneThatCameSince();
        whoIsInItIsFoundOutFirst();
        housesAreHeld();
        heard();
        onNone();
        check.end();
    }

    private static HushAtFour with(int four, int wide, int pace) {
        HushAtFour x = new HushAtFour();
        x.hush(0, four);
        x.hush(1, wide);
        x.hush(2, pace);
        return x;
    }

    private static int goes(HushAtFour x, int kind, int house) {
        x.turn(0, kind);
        x.set(0, 1, house);
        return x.of(0, 4) - 100;
    }

    private static int talks(HushAtFour x, int kind, int house) {
        x.turn(0, kind);
        x.set(0, 1, house);
        return x.of(0, 5);
    }

    /** "-1000000001 BEYOND, .. FULL, .. KIND, .. NONE, .. STATE, .. MISSING, -1000000007 SIZE (in longs, too)" */
    private static void findings() {
        HushAtFour x = new HushAtFour();
        for (int p = 0; p < 8; p++) {
            x.person(WALKER, 0);
        }
        check.due("BEYOND", x.now(8), -1000000001L);
        check.due("FULL", x.person(0, 0), -1000000002L);
        check.due("KIND", x.as(0, 1), -1000000003L);
        check.due("NONE", x.undo(), -1000000004L);
        check.due("MISSING", x.lays(0), -1000000006L);
        check.due("SIZE", x.sheet(0, 8, -1), -1000000007L);
        check.due("BEYOND, in longs", x.write(4, 0, 0), -1000000001L);
        check.due("MISSING, in longs", x.write(0, 0, 0), -1000000006L);
        HushAtFour y = new HushAtFour();
        for (int i = 0; i < 499; i++) {
            y.minutes(200);
        }
        check.due("STATE", y.minutes(200), -1000000005L);
    }

    /** "MINUTE: 0 at first ..; of the day: its rest by 100." */
    private static void minuteOfTheDayWrapsAround() {
        HushAtFour x = new HushAtFour();
        check.due("MINUTE at first", x.now(0), 0);
        check.due("of the day at first", x.now(1), 0);
        x.minutes(99);
        check.due("of the day at 99", x.now(1), 99);
        x.minutes(1);
        check.due("MINUTE at 100", x.now(0), 100);
        check.due("of the day at 100", x.now(1), 0);
        x.minutes(99);
        check.due("of the day at 199", x.now(1), 99);
        x.minutes(1);
        check.due("of the day at 200", x.now(1), 0);
    }

    /** "each with NOISE (..; of house i at first the rest of 4 times i by 7)" */
    private static void firstNoise() {
        int[] due = {0, 4, 1, 5, 2, 6, 3, 0, 4, 1, 5, 2, 6, 3, 0, 4, 1, 5, 2, 6, 3, 0, 4, 1, 5, 2, 6, 3, 0, 4};
        HushAtFour x = new HushAtFour();
        for (int house = 0; house < 30; house++) {
            check.due("NOISE of " + house, x.house(house, 0), due[house]);
        }
    }

    /** "it takes the houses EDGE, EDGE less 1, .., as many as it is WIDE (those below 0 or above 29 don't count)" */
    private static void theHushOfEveryWidthAndPace() {
        for (int wide = 0; wide <= 10; wide++) {
            for (int pace = 1; pace <= 5; pace++) {
                for (int m = -7; m <= 42; m++) {
                    hushAt(wide, pace, m);
                }
            }
        }
    }

    /** ".. There is no hush ahead of FOUR, nor if it is 0 WIDE, nor when all that it takes is above 29." */
    private static void hushAt(int wide, int pace, int m) {
        HushAtFour x = with(8, wide, pace);
        x.minutes(8 + m);
        boolean[] isTaken = new boolean[30];
        boolean isThere = false;
        for (int i = 0; i < wide; i++) {
            int house = pace * m - i;
            if (m >= 0 && house >= 0 && house < 30) {
                isTaken[house] = true;
                isThere = true;
            }
        }
        String at = " of " + wide + " wide, pace " + pace + ", behind four by " + m;
        check.due("now(2)" + at, x.now(2), isThere ? 1 + pace * m : 0);
        x.person(DOG, 29);
        int e = Math.max(-4, Math.min(4, pace * m - 29));
        check.due("a dog" + at, x.of(0, 4), 100 + (isThere ? e : -1));
        for (int house = 0; house < 30; house++) {
            check.due("house " + house + at, x.house(house, 1), isTaken[house] ? 1 : 0);
        }
    }

    /** "m minutes behind FOUR (of the same day)", "There is no hush ahead of FOUR" */
    private static void theHushOfTheSameDay() {
        HushAtFour x = with(0, 10, 1);
        check.due("FOUR 0, minute 0", x.now(2), 1);
        x.minutes(99);
        x.hush(0, 99);
        check.due("FOUR 99, minute 99", x.now(2), 1);
        check.due("house 0", x.house(0, 1), 1);
        check.due("house 1", x.house(1, 1), 0);
        x.minutes(1);
        check.due("FOUR 99, minute 100", x.now(2), 0);
        check.due("house 0, the next day", x.house(0, 1), 0);
        check.due("house 1, the next day", x.house(1, 1), 0);
        x.hush(0, 1);
        check.due("FOUR 1, minute 100", x.now(2), 0);
        x.hush(0, 0);
        check.due("FOUR 0, minute 100", x.now(2), 1);
        x.hush(0, 80);
        x.minutes(79);
        check.due("FOUR 80, minute 179", x.now(2), 0);
        x.minutes(1);
        check.due("FOUR 80, minute 180", x.now(2), 1);
        x.minutes(19);
        check.due("FOUR 80, minute 199", x.now(2), 20);
        x.minutes(1);
        check.due("FOUR 80, minute 200: the day is over", x.now(2), 0);
    }

    /** "PEDLAR: PACE, if it is in it, else 0." */
    private static void pedlarGoes() {
        for (int pace = 1; pace <= 5; pace++) {
            HushAtFour x = with(0, 3, pace);
            x.person(PEDLAR, 0);
            check.due("at EDGE 0, pace " + pace, goes(x, PEDLAR, 0), pace);
            check.due("ahead of EDGE 0, pace " + pace, goes(x, PEDLAR, 1), 0);
            x.set(0, 1, 29);
            x.minutes(4);
            int at = 4 * pace;
            check.due("ahead, pace " + pace, goes(x, PEDLAR, at + 1), 0);
            check.due("at EDGE, pace " + pace, goes(x, PEDLAR, at), pace);
            check.due("at the last that it takes, pace " + pace, goes(x, PEDLAR, at - 2), pace);
            check.due("behind, pace " + pace, goes(x, PEDLAR, at - 3), 0);
        }
    }

    /** "CHILD: 2, if e is -3 to 0, else 0." "RUNNER: as CHILD, and 1, if e is 0." */
    private static void childAndRunnerGo() {
        HushAtFour x = with(0, 3, 5);
        x.person(WALKER, 29);
        x.minutes(2);
        check.due("EDGE", x.now(2), 11);
        int[] ofChild = {0, 2, 2, 2, 2, 0, 0, 0};
        int[] ofRunner = {0, 2, 2, 2, 3, 0, 0, 0};
        for (int e = -4; e <= 3; e++) {
            check.due("child, e " + e, goes(x, CHILD, 10 - e), ofChild[e + 4]);
            check.due("runner, e " + e, goes(x, RUNNER, 10 - e), ofRunner[e + 4]);
        }
        x.minutes(4);
        check.due("EDGE above 29", x.now(2), 31);
        check.due("child at 29, e 1", goes(x, CHILD, 29), 0);
        check.due("runner at 29, e 1", goes(x, RUNNER, 29), 0);
    }

    /** "DOG: e, held to -4 to 4." */
    private static void dogGoes() {
        HushAtFour x = with(0, 3, 5);
        x.person(WALKER, 29);
        x.minutes(2);
        int[] due = {-4, -4, -3, -2, -1, 0, 1, 2, 3, 4, 4};
        for (int e = -5; e <= 5; e++) {
            check.due("dog, e " + e, goes(x, DOG, 10 - e), due[e + 5]);
        }
        check.due("dog, e -19", goes(x, DOG, 29), -4);
        check.due("dog, e 10", goes(x, DOG, 0), 4);
    }

    /** "DOCTOR: as PEDLAR, but 0 in minutes of the day whose rest by 5 is 0." */
    private static void doctorGoesByTheBell() {
        for (int minute : new int[] {94, 95, 96, 99, 100, 101, 104, 105}) {
            HushAtFour x = with(minute % 100, 1, 3);
            x.person(WALKER, 29);
            x.minutes(minute - 50);
            x.minutes(50);
            boolean isBell = minute % 5 == 0;
            check.due("doctor in minute " + minute, goes(x, DOCTOR, 0), isBell ? 0 : 3);
            check.due("doctor out of it in minute " + minute, goes(x, DOCTOR, 1), 0);
            check.due("pedlar in minute " + minute, goes(x, PEDLAR, 0), 3);
        }
    }

    /** "(Without one: 0, but DOG: -1.)" */
    private static void allGoWithoutOne() {
        HushAtFour[] without = {with(1, 3, 1), with(0, 0, 1), with(0, 1, 5)};
        without[2].minutes(6);
        for (HushAtFour x : without) {
            x.person(WALKER, 0);
            check.due("none", x.now(2), 0);
            for (int kind = 0; kind < 6; kind++) {
                for (int house : new int[] {0, 1, 28, 29}) {
                    check.due("kind " + kind + " at " + house, goes(x, kind, house), kind == DOG ? -1 : 0);
                }
            }
        }
        // By EDGE 28 of 1 wide there is one yet.
        HushAtFour x = with(0, 1, 4);
        x.person(WALKER, 0);
        x.minutes(7);
        check.due("dog at 29, EDGE 28", goes(x, DOG, 29), -1);
        check.due("dog at 27, EDGE 28", goes(x, DOG, 27), 1);
    }

    /** "TALKS .. (In it 0, but 1 of a DOCTOR with the bell.)" */
    private static void talksInAndOut() {
        int[] out = {2, 5, 4, 1, 5, 3};
        HushAtFour x = with(0, 3, 1);
        x.person(WALKER, 29);
        x.minutes(11);
        for (int kind = 0; kind < 6; kind++) {
            check.due("ahead of EDGE, kind " + kind, talks(x, kind, 12), out[kind]);
            check.due("at EDGE, kind " + kind, talks(x, kind, 11), 0);
            check.due("at the last, kind " + kind, talks(x, kind, 9), 0);
            check.due("behind, kind " + kind, talks(x, kind, 8), out[kind]);
        }
    }

    /** "DOCTOR: as PEDLAR, and 1 in minutes of the day whose rest by 5 is 0 (a bell)." */
    private static void doctorTalksByTheBell() {
        for (int minute : new int[] {94, 95, 96, 99, 100, 101, 104, 105}) {
            HushAtFour x = with(minute % 100, 1, 3);
            x.person(WALKER, 29);
            x.minutes(minute - 50);
            x.minutes(50);
            int bell = minute % 5 == 0 ? 1 : 0;
            check.due("doctor in it in minute " + minute, talks(x, DOCTOR, 0), bell);
            check.due("doctor out of it in minute " + minute, talks(x, DOCTOR, 1), 5 + bell);
            check.due("pedlar in it in minute " + minute, talks(x, PEDLAR, 0), 0);
            check.due("pedlar out of it in minute " + minute, talks(x, PEDLAR, 1), 5);
        }
    }

    /** "WALKER: if c is 3 or more. PEDLAR: no. CHILD: as WALKER. DOG: yes. DOCTOR: as PEDLAR. RUNNER: .. c is 1 or more." */
    private static void stepsOverByHowOften() {
        int never = 10000;
        int[] from = {3, never, 3, 0, never, 1};
        HushAtFour x = new HushAtFour();
        x.person(WALKER, 9);
        for (int kind = 0; kind < 6; kind++) {
            x.turn(0, kind);
            for (int c : new int[] {0, 1, 2, 3, 4, 9998, 9999}) {
                x.set(0, 3, c);
                check.due("kind " + kind + ", c " + c, x.of(0, 6), c >= from[kind] ? 1 : 0);
            }
        }
    }

    /** "CAUGHT is 1 more of those that .. don't STEP OVER" */
    private static void caughtByHowOften() {
        int never = 10000;
        int[] from = {3, never, 3, 0, never, 1};
        for (int kind = 0; kind < 6; kind++) {
            for (int c : new int[] {0, 1, 2, 3, 4, 9998}) {
                HushAtFour x = with(0, 3, 1);
                x.person(kind, 0);
                x.set(0, 3, c);
                check.due("on, kind " + kind + ", c " + c, x.on(0, 1, 2), c >= from[kind] ? c : c + 1);
                x.minutes(1);
                check.due("kind " + kind + ", c " + c, x.of(0, 3), c >= from[kind] ? c : c + 1);
                check.due("QUIET, kind " + kind + ", c " + c, x.of(0, 2), 1);
            }
        }
    }

    /** "in it for so many minutes (QUIET; .. held to 9999)" */
    private static void quietIsHeld() {
        HushAtFour x = with(0, 3, 1);
        x.person(WALKER, 0);
        x.set(0, 2, 9998);
        check.due("on(0, 1, 1)", x.on(0, 1, 1), 9999);
        check.due("on(0, 400, 1)", x.on(0, 400, 1), 9999);
        x.minutes(1);
        check.due("QUIET", x.of(0, 2), 9999);
        x.minutes(1);
        check.due("QUIET, held", x.of(0, 2), 9999);
        check.due("as(0, 0)", x.as(0, 0), 9999);
    }

    /** "CAUGHT (.., held to 9999)" */
    private static void caughtIsHeld() {
        for (int kind : new int[] {PEDLAR, DOCTOR}) {
            HushAtFour x = with(0, 3, 1);
            x.person(kind, 0);
            x.set(0, 3, 9998);
            check.due("on(0, 1, 2)", x.on(0, 1, 2), 9999);
            x.minutes(1);
            check.due("CAUGHT", x.of(0, 3), 9999);
            x.set(0, 1, 0);
            check.due("on(0, 400, 2)", x.on(0, 400, 2), 9999);
            x.minutes(99);
            x.set(0, 1, 0);
            x.minutes(1);
            check.due("WAS", x.of(0, 7), 1);
            check.due("CAUGHT, held", x.of(0, 3), 9999);
        }
    }

    /** "of those that WERE not in it in the MINUTE that went last .. (one that came since WAS not)" */
    private static void caughtAgainAndOneThatCameSince() {
        HushAtFour x = with(0, 3, 1);
        x.person(PEDLAR, 0);
        check.due("on(0, 1, 2) of one that WAS not in it", x.on(0, 1, 2), 1);
        x.minutes(1);
        x.person(PEDLAR, 0);
        check.due("on(0, 9, 2) of one that WAS in it", x.on(0, 9, 2), 1);
        check.due("on(1, 0, 2) of one that came since", x.on(1, 0, 2), 0);
        check.due("on(1, 9, 2) of one that came since", x.on(1, 9, 2), 1);
        x.minutes(1);
        check.due("one that WAS in it", x.of(0, 3), 1);
        check.due("one that came since", x.of(1, 3), 1);
        x.minutes(1);
        check.due("that one, a minute later", x.of(1, 3), 1);
        x.set(0, 1, 29);
        x.minutes(1);
        check.due("WAS, set out of it", x.of(0, 7), 0);
        x.set(0, 1, 3);
        x.minutes(1);
        check.due("CAUGHT again, set into it", x.of(0, 3), 2);
        // From the last minute of a day into the first of the next one: it WAS in it, and isn't caught anew.
        HushAtFour y = with(99, 3, 1);
        y.person(WALKER, 0);
        y.minutes(100);
        check.due("CAUGHT in minute 99", y.of(0, 3), 1);
        y.hush(0, 0);
        y.minutes(1);
        check.due("CAUGHT no more in minute 100", y.of(0, 3), 1);
        check.due("QUIET in both", y.of(0, 2), 2);
    }

    /** "who is in it is found out (by where all are, and THE HUSH in that MINUTE) .. Then PEOPLE by numbers go" */
    private static void whoIsInItIsFoundOutFirst() {
        HushAtFour x = with(0, 1, 1);
        x.person(PEDLAR, 0);
        x.person(WALKER, 1);
        x.minutes(1);
        check.due("QUIET of one in it before it goes", x.of(0, 2), 1);
        check.due("QUIET of one that it reaches in the next minute", x.of(1, 2), 0);
        check.due("house", x.of(0, 1), 1);
        check.due("WAS of one that it reaches now", x.of(1, 7), 0);
        check.due("who is in it now", x.now(4), 3);
        x.minutes(1);
        check.due("QUIET", x.of(1, 2), 1);
    }

    private static int cameTo(int minute, int four, int kind, int house) {
        HushAtFour x = with(four, 3, 5);
        if (minute > 0) {
            x.minutes(minute);
        }
        x.person(kind, house);
        x.minutes(1);
        return x.of(0, 1);
    }

    /** "go (0 to 29 held)" */
    private static void housesAreHeld() {
        check.due("a dog at 0 without one", cameTo(0, 50, DOG, 0), 0);
        check.due("a dog at 1 without one", cameTo(0, 50, DOG, 1), 0);
        check.due("a dog at 2 without one", cameTo(0, 50, DOG, 2), 1);
        check.due("a pedlar at 24, EDGE 25", cameTo(51, 46, PEDLAR, 24), 29);
        check.due("a pedlar at 25, EDGE 25", cameTo(51, 46, PEDLAR, 25), 29);
        check.due("a pedlar at 23, EDGE 25", cameTo(51, 46, PEDLAR, 23), 28);
        check.due("a child at 27, EDGE 25", cameTo(51, 46, CHILD, 27), 29);
        check.due("a child at 28, EDGE 25", cameTo(51, 46, CHILD, 28), 29);
        check.due("a child at 29, EDGE 30", cameTo(52, 46, CHILD, 29), 29);
        check.due("a dog at 28, EDGE 30", cameTo(52, 46, DOG, 28), 29);
        check.due("a dog at 29, EDGE 30", cameTo(52, 46, DOG, 29), 29);
        HushAtFour x = with(0, 1, 1);
        x.minutes(28);
        x.person(RUNNER, 28);
        x.person(RUNNER, 29);
        x.person(DOG, 29);
        check.due("on(0, 1, 0)", x.on(0, 1, 0), 29);
        x.minutes(1);
        check.due("a runner at 28, EDGE 28", x.of(0, 1), 29);
        check.due("a runner at 29, EDGE 28", x.of(1, 1), 29);
        check.due("a dog at 29, EDGE 28", x.of(2, 1), 28);
    }

    /** "HEARD: NOISE of all houses that it doesn't take, and what all TALK, together." */
    private static void heard() {
        HushAtFour x = new HushAtFour();
        for (int house = 0; house < 30; house++) {
            x.noise(house, 20);
        }
        check.due("none taken", x.now(3), 600);
        x.hush(0, 0);
        x.hush(1, 10);
        int[] taken = {1, 2, 10, 10, 10, 9, 1, 0};
        int[] minute = {0, 1, 9, 10, 29, 30, 38, 39};
        for (int i = 0; i < taken.length; i++) {
            check.due("heard(" + minute[i] + ")", x.heard(minute[i]), 600 - 20 * taken[i]);
        }
    }

    /** "ON: n MINUTES go on with all as it is": 0 of them is now. */
    private static void onNone() {
        HushAtFour x = Edge.full();
        check.due("heard(0)", x.heard(0), x.now(3));
        for (int p = 0; p < 8; p++) {
            for (int what = 0; what <= 2; what++) {
                check.due("on(" + p + ", 0, " + what + ")", x.on(p, 0, what), x.of(p, what + 1));
            }
        }
    }
}
