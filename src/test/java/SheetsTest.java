/** Promises 27 to 32: sheet, write, copy, lays, book, read. */
public final class SheetsTest {
    private static final Check check = new Check("SheetsTest");

    public static void main(String[] args) {
        sheets();
        writes();
        copies();
        copiesRefuse();
        lays();
        books();
        reads();
        check.end();
    }

    private static void sheets() {
        HushAtFour x = new HushAtFour();
        for (int bits : new int[] {8, 16, 64}) {
            check.due("sheet(3, " + bits + ", 40)", x.sheet(3, bits, 40), 40);
            check.due("the last number", x.write(3, 39, 7), 0);
        }
        check.due("sheet(3, 64, 40) anew", x.sheet(3, 64, 40), 40);
        check.due("all 0", x.write(3, 39, 7), 0);
        check.due("sheet(3, 64, 0)", x.sheet(3, 64, 0), 0);
        check.refused("no numbers", x, () -> x.write(3, 0, 7), Check.BEYOND);
        check.due("sheet(3, 0, 40)", x.sheet(3, 0, 40), 0);
        check.refused("it is missing", x, () -> x.write(3, 0, 7), Check.MISSING);
        x.sheet(3, 8, 2);
        check.refused("sheet(-1, 8, 1)", x, () -> x.sheet(-1, 8, 1), Check.BEYOND);
        check.refused("sheet(4, 8, -1)", x, () -> x.sheet(4, 8, -1), Check.BEYOND);
        check.refused("sheet(3, 32, -1)", x, () -> x.sheet(3, 32, -1), Check.BEYOND);
        check.refused("sheet(3, -8, 1)", x, () -> x.sheet(3, -8, 1), Check.BEYOND);
        check.refused("sheet(3, 8, -1)", x, () -> x.sheet(3, 8, -1), Check.SIZE);
        check.refused("sheet(3, 0, -1)", x, () -> x.sheet(3, 0, -1), Check.SIZE);
        check.refused("sheet(3, 8, 41)", x, () -> x.sheet(3, 8, 41), Check.BEYOND);
        check.refused("sheet(3, 0, 41)", x, () -> x.sheet(3, 0, 41), Check.BEYOND);
    }

    private static void writes() {
        HushAtFour x = new HushAtFour();
        x.sheet(0, 8, 3);
        x.sheet(1, 16, 3);
        x.sheet(2, 64, 3);
        long[] written = {0x123456789ABCDE7FL, 0x7FL, 0x80L, -1L, 0x8000L, Long.MIN_VALUE};
        for (long v : written) {
            x.write(0, 1, v);
            check.due("8 bits of " + v, x.write(0, 1, 0), (byte) v);
            x.write(1, 1, v);
            check.due("16 bits of " + v, x.write(1, 1, 0), (short) v);
            x.write(2, 1, v);
            check.due("64 bits of " + v, x.write(2, 1, 0), v);
        }
        check.due("the one beside", x.write(2, 2, 5), 0);
        check.refused("write(-1, 0, 1)", x, () -> x.write(-1, 0, 1), Check.BEYOND);
        check.refused("write(4, 9, 1)", x, () -> x.write(4, 9, 1), Check.BEYOND);
        check.refused("write(3, 9, 1)", x, () -> x.write(3, 9, 1), Check.MISSING);
        check.refused("write(0, 3, 1)", x, () -> x.write(0, 3, 1), Check.BEYOND);
        check.refused("write(0, -1, 1)", x, () -> x.write(0, -1, 1), Check.BEYOND);
    }

    private static HushAtFour withRows() {
        HushAtFour x = new HushAtFour();
        x.sheet(0, 16, 6);
        x.sheet(1, 16, 4);
        x.sheet(2, 64, 6);
        for (int i = 0; i < 6; i++) {
            x.write(0, i, 10 + i);
        }
        return x;
    }

    private static String row(HushAtFour x, int s, int n) {
        StringBuilder row = new StringBuilder();
        for (int i = 0; i < n; i++) {
            long number = x.write(s, i, 0);
            row.append(number).append(' ');
            x.write(s, i, number);
        }
        return row.toString();
    }

    private static void copies() {
        HushAtFour x = withRows();
        check.due("copy(0, 2, 1, 1, 3)", x.copy(0, 2, 1, 1, 3), 3);
        check.same("sheet 1", row(x, 1, 4), "0 12 13 14 ");
        check.same("sheet 0", row(x, 0, 6), "10 11 12 13 14 15 ");
        check.due("copy(0, 0, 0, 2, 4)", x.copy(0, 0, 0, 2, 4), 4);
        check.same("up over itself", row(x, 0, 6), "10 11 10 11 12 13 ");
        x = withRows();
        check.due("copy(0, 2, 0, 0, 4)", x.copy(0, 2, 0, 0, 4), 4);
        check.same("down over itself", row(x, 0, 6), "12 13 14 15 14 15 ");
        check.due("all of it", x.copy(1, 0, 1, 0, 4), 4);
        check.due("none, behind the last", x.copy(0, 6, 1, 4, 0), 0);
    }

    private static void copiesRefuse() {
        HushAtFour x = withRows();
        check.refused("from no sheet", x, () -> x.copy(-1, 0, 3, 0, 1), Check.BEYOND);
        check.refused("to no sheet", x, () -> x.copy(3, 0, 4, 0, 1), Check.BEYOND);
        check.refused("from a missing one", x, () -> x.copy(3, 0, 0, 0, 99), Check.MISSING);
        check.refused("to a missing one", x, () -> x.copy(0, -1, 3, 0, 1), Check.MISSING);
        check.refused("of other bits", x, () -> x.copy(0, -1, 2, 0, 1), Check.KIND);
        check.refused("from -1", x, () -> x.copy(0, -1, 1, 0, 1), Check.BEYOND);
        check.refused("to -1", x, () -> x.copy(0, 0, 1, -1, 1), Check.BEYOND);
        check.refused("-1 numbers", x, () -> x.copy(0, 0, 1, 0, -1), Check.BEYOND);
        check.refused("too many for the first", x, () -> x.copy(1, 2, 0, 0, 3), Check.BEYOND);
        check.refused("too many for the second", x, () -> x.copy(0, 0, 1, 0, 5), Check.BEYOND);
        check.refused("none from far", x, () -> x.copy(0, 7, 1, 0, 0), Check.BEYOND);
        check.refused("none to far", x, () -> x.copy(0, 0, 1, 5, 0), Check.BEYOND);
        int most = Integer.MAX_VALUE;
        check.refused("from most, most numbers", x, () -> x.copy(0, most, 1, most, most), Check.BEYOND);
        check.refused("from 1, most numbers", x, () -> x.copy(0, 1, 1, 1, most), Check.BEYOND);
    }

    private static void lays() {
        HushAtFour x = new HushAtFour();
        check.refused("lays(4)", x, () -> x.lays(4), Check.BEYOND);
        check.refused("lays(-1)", x, () -> x.lays(-1), Check.BEYOND);
        check.refused("lays(0)", x, () -> x.lays(0), Check.MISSING);
        x.sheet(0, 64, 40);
        for (int i = 0; i < 40; i++) {
            x.write(0, i, 20);
        }
        x.write(0, 1, 21);
        x.write(0, 3, -1);
        x.write(0, 5, 1L << 32);
        check.due("lays(0)", x.lays(0), 27);
        check.due("house 0", x.house(0, 0), 20);
        check.due("house 1", x.house(1, 0), 4);
        check.due("house 3", x.house(3, 0), 5);
        check.due("house 5", x.house(5, 0), 6);
        check.due("house 29", x.house(29, 0), 20);
        x.sheet(0, 8, 2);
        check.due("lays(0) of two", x.lays(0), 2);
        check.due("house 0", x.house(0, 0), 0);
        check.due("house 2", x.house(2, 0), 20);
        x.sheet(0, 8, 0);
        check.due("lays(0) of none", x.lays(0), 0);
    }

    private static void books() {
        HushAtFour x = new HushAtFour();
        x.person(0, 4);
        x.person(1, 0);
        x.minutes(28);
        check.refused("book(-1, 9)", x, () -> x.book(-1, 9), Check.BEYOND);
        check.refused("book(4, 1)", x, () -> x.book(4, 1), Check.BEYOND);
        check.refused("book(0, 9)", x, () -> x.book(0, 9), Check.MISSING);
        for (int bits : new int[] {8, 16, 64}) {
            x.sheet(0, bits, 6);
            check.due("book(0, 1)", x.book(0, 1), 6);
            check.same("the book", row(x, 0, 6), "0 0 0 1 2 3 ");
        }
        check.refused("book(0, 2)", x, () -> x.book(0, 2), Check.BEYOND);
        check.refused("book(0, -1)", x, () -> x.book(0, -1), Check.BEYOND);
        check.due("MINUTE stays", x.now(0), 28);
        check.due("house stays", x.of(1, 1), 0);
        x.sheet(0, 8, 0);
        check.due("book of none", x.book(0, 1), 0);
    }

    private static void reads() {
        HushAtFour x = new HushAtFour();
        x.person(0, 4);
        check.refused("read(-1, 9)", x, () -> x.read(-1, 9), Check.BEYOND);
        check.refused("read(4, 0)", x, () -> x.read(4, 0), Check.BEYOND);
        check.refused("read(0, 9)", x, () -> x.read(0, 9), Check.MISSING);
        x.sheet(0, 64, 0);
        check.due("read of nothing", x.read(0, 0), 180);
        check.refused("read(0, 1)", x, () -> x.read(0, 1), Check.BEYOND);
        check.refused("read(0, -1)", x, () -> x.read(0, -1), Check.BEYOND);
        x.sheet(0, 64, 1);
        check.due("read of one house", x.read(0, 0), 6);
        x.write(0, 0, 30);
        check.due("read of no house", x.read(0, 0), 0);
        x.write(0, 0, 1L << 32);
        check.due("read of a number far above", x.read(0, 0), 0);
        x.sheet(0, 8, 2);
        x.write(0, 0, 9);
        x.write(0, 1, 8);
        check.due("only a dog goes west", x.read(0, 0), 1);
        x.write(0, 1, 9);
        check.due("five kinds stay", x.read(0, 0), 5);
        x.hush(0, 0);
        x.sheet(0, 8, 2);
        // EDGE is 0 in minute 0: a walker, a dog, and the doctor, whose bell it is, stay at house 0.
        check.due("who stays at 0", x.read(0, 0), 3);
        x.write(0, 1, 3);
        check.due("a runner goes 3", x.read(0, 0), 1);
        String before = Check.look(x);
        x.read(0, 0);
        check.same("read changes nothing", Check.look(x), before);
    }
}
