/** Promises 33 to 37: image, undo, tear, count, status. */
public final class ImagesTest {
    private static final Check check = new Check("ImagesTest");

    public static void main(String[] args) {
        undoBringsAllBack();
        theLatestStays();
        tapeAndSheetsAreNotKept();
        tears();
        counts();
        statuses();
        check.end();
    }

    private static void undoBringsAllBack() {
        HushAtFour x = new HushAtFour();
        for (int kind = 0; kind < 6; kind++) {
            x.person(kind, kind);
        }
        x.minutes(35);
        x.noise(4, 17);
        String before = Check.look(x);
        check.due("image()", x.image(), 1);
        x.noise(4, 1);
        x.noise(29, 1);
        x.hush(0, 3);
        x.hush(1, 4);
        x.hush(2, 5);
        x.turn(0, 5);
        x.set(1, 1, 29);
        x.set(1, 2, 999);
        x.set(1, 3, 999);
        x.person(3, 3);
        x.person(3, 3);
        x.minutes(150);
        check.due("undo()", x.undo(), 6);
        check.same("all that was kept", Check.look(x), before);
        x.minutes(1);
        check.due("undo() again", x.undo(), 6);
        check.same("all that was kept, again", Check.look(x), before);
    }

    private static void theLatestStays() {
        HushAtFour x = new HushAtFour();
        x.image();
        x.person(0, 7);
        x.image();
        x.person(0, 8);
        check.due("undo()", x.undo(), 1);
        check.due("undo()", x.undo(), 1);
        x.set(0, 1, 20);
        check.due("undo()", x.undo(), 1);
        check.due("house", x.of(0, 1), 7);
    }

    private static void tapeAndSheetsAreNotKept() {
        HushAtFour x = new HushAtFour();
        x.sheet(0, 8, 2);
        x.image();
        x.sheet(0, 16, 3);
        x.write(0, 2, 300);
        Check.feed(x, "dog");
        x.minutes(0);
        x.undo();
        check.due("the tape", x.count(1), 3);
        check.due("the sheet", x.write(0, 2, 0), 300);
        check.due("status", x.status(-1), 1);
    }

    private static void tears() {
        HushAtFour x = new HushAtFour();
        check.due("tear() of nothing", x.tear(), 0);
        check.refused("undo() of nothing", x, () -> x.undo(), Check.NONE);
        x.image();
        x.image();
        check.due("tear()", x.tear(), 1);
        check.due("tear() again", x.tear(), 0);
        x.person(0, 0);
        check.refused("undo() of nothing", x, () -> x.undo(), Check.NONE);
        x.image();
        check.due("undo()", x.undo(), 1);
    }

    private static void counts() {
        HushAtFour x = new HushAtFour();
        x.person(0, 0);
        x.person(1, 0);
        x.set(0, 2, 9999);
        x.set(1, 2, 8);
        x.feed(0, 3);
        x.noise(1, 14);
        check.due("count(0)", x.count(0), 2);
        check.due("count(1)", x.count(1), 3);
        check.due("count(2)", x.count(2), 98);
        check.due("count(3)", x.count(3), 10007);
        check.refused("count(4)", x, () -> x.count(4), Check.BEYOND);
        check.refused("count(-1)", x, () -> x.count(-1), Check.BEYOND);
    }

    private static void statuses() {
        HushAtFour x = new HushAtFour();
        for (int p = 0; p < 8; p++) {
            x.person(0, 0);
        }
        x.noise(-1, 0);
        x.person(0, 0);
        x.person(0, 0);
        for (int i = 0; i < 3; i++) {
            x.as(0, 1);
        }
        for (int i = 0; i < 4; i++) {
            x.undo();
        }
        for (int i = 0; i < 6; i++) {
            x.write(0, 0, 0);
        }
        for (int i = 0; i < 7; i++) {
            x.sheet(0, 8, -1);
        }
        int[] due = {1, 2, 3, 4, 0, 6, 7};
        for (int which = 0; which < 7; which++) {
            check.due("status(" + which + ")", x.status(which), due[which]);
        }
        check.due("status(-1)", x.status(-1), 23);
        check.due("status(7)", x.status(7), Check.BEYOND);
        check.due("status(0), from then on", x.status(0), 2);
        check.due("status(-2)", x.status(-2), Check.BEYOND);
        check.due("status(-1), from then on", x.status(-1), 25);
        x.image();
        x.noise(-1, 0);
        x.undo();
        check.due("undo() takes none back", x.status(-1), 26);
    }
}
