/** Promises 27 to 32 at their bounds. */
public final class SheetsEdgeTest {
    private static final int MOST = Integer.MAX_VALUE;
    private static final int LEAST = Integer.MIN_VALUE;
    private static final Check check = new Check("SheetsEdgeTest");
    private static final Edge edge = new Edge(check);

    public static void main(String[] args) {
        sheetsAreFourAndMissingAtFirst();
        sheetIsOf8Or16Or64Bits();
        sheetHas0To40Numbers();
        sheetsFindingsInOrder();
        aNewSheetIsAll0();
        writeTakesNumbersThatAreThere();
        writeKeepsTheLowestBits();
        writesFindingsInOrder();
        aNumberThatLooksLikeAFinding();
        copyUpToTheLast();
        copyAsTheyAllWere();
        copysFindingsInOrder();
        laysFrom0To20();
        laysForHousesAlone();
        laysFindingsInOrder();
        bookAsManyAsItHas();
        booksFindingsInOrder();
        readFromNoneToAll();
        readsFindingsInOrder();
        check.end();
    }

    /** "SHEETS 0 to 3 are rows .. or MISSING (at first)." */
    private static void sheetsAreFourAndMissingAtFirst() {
        edge.range("sheet", Edge::full, (x, v) -> x.sheet(v, 8, 3), Edge.from(0, 3), 3, 3);
        for (int s = 0; s <= 3; s++) {
            int sheet = s;
            edge.refuses("write, new " + s, HushAtFour::new, x -> x.write(sheet, 0, 1), Check.MISSING);
            edge.refuses("lays, new " + s, HushAtFour::new, x -> x.lays(sheet), Check.MISSING);
            edge.refuses("copy, new " + s, HushAtFour::new, x -> x.copy(sheet, 0, sheet, 0, 0), Check.MISSING);
        }
        HushAtFour x = new HushAtFour();
        for (int s = 0; s <= 3; s++) {
            check.due("sheet " + s, x.sheet(s, 64, 40), 40);
            check.due("its last number", x.write(s, 39, s + 1), 0);
        }
        for (int s = 0; s <= 3; s++) {
            check.due("its last number still", x.write(s, 39, 0), s + 1);
        }
    }

    /** "of 8, 16 or 64 bits; bits 0: it is MISSING: n (0 if it is MISSING). BEYOND: .. other bits." */
    private static void sheetIsOf8Or16Or64Bits() {
        for (int bits : new int[] {8, 16, 64}) {
            edge.takes("sheet of bits " + bits, Edge::full, x -> x.sheet(3, bits, 7), 7);
        }
        edge.takes("sheet of bits 0", Edge::full, x -> x.sheet(0, 0, 7), 0);
        edge.takes("sheet of bits 0, missing", Edge::full, x -> x.sheet(3, 0, 40), 0);
        for (int bits : new int[] {-1, 1, 7, 9, 15, 17, 24, 32, 63, 65, 128, -8, -16, -64, LEAST, MOST}) {
            edge.refuses("sheet of bits " + bits, Edge::full, x -> x.sheet(0, bits, 3), Check.BEYOND);
        }
        HushAtFour x = Edge.full();
        for (int s = 0; s <= 2; s++) {
            x.sheet(s, 0, 2);
            check.due("write to one that became missing", x.write(s, 0, 1), Check.MISSING);
        }
    }

    /** "SIZE: n is below 0 (also with bits 0). BEYOND: n is above 40 (also with bits 0)." */
    private static void sheetHas0To40Numbers() {
        for (int bits : new int[] {0, 8, 16, 64}) {
            String of = ", bits " + bits;
            edge.takes("sheet of 0" + of, Edge::full, x -> x.sheet(0, bits, 0), 0);
            edge.takes("sheet of 40" + of, Edge::full, x -> x.sheet(0, bits, 40), bits == 0 ? 0 : 40);
            for (int n : new int[] {-1, LEAST}) {
                edge.refuses("sheet of " + n + of, Edge::full, x -> x.sheet(0, bits, n), Check.SIZE);
                edge.refuses("missing sheet of " + n + of, Edge::full, x -> x.sheet(3, bits, n), Check.SIZE);
            }
            for (int n : new int[] {41, MOST}) {
                edge.refuses("sheet of " + n + of, Edge::full, x -> x.sheet(0, bits, n), Check.BEYOND);
                edge.refuses("missing sheet of " + n + of, Edge::full, x -> x.sheet(3, bits, n), Check.BEYOND);
            }
        }
    }

    /** "BEYOND: no such sheet, other bits. SIZE: n is below 0 .." in this order. */
    private static void sheetsFindingsInOrder() {
        for (int n : new int[] {-1, LEAST, 41}) {
            edge.refuses("sheet -1 of " + n, Edge::full, x -> x.sheet(-1, 8, n), Check.BEYOND);
            edge.refuses("sheet 4 of " + n, Edge::full, x -> x.sheet(4, 8, n), Check.BEYOND);
            edge.refuses("bits 9, " + n, Edge::full, x -> x.sheet(0, 9, n), Check.BEYOND);
            edge.refuses("sheet 4, bits 9, " + n, Edge::full, x -> x.sheet(4, 9, n), Check.BEYOND);
        }
    }

    /** "A sheet has n numbers, all 0" */
    private static void aNewSheetIsAll0() {
        HushAtFour x = new HushAtFour();
        for (int bits : new int[] {8, 16, 64}) {
            x.sheet(2, bits, 40);
            for (int i = 0; i < 40; i++) {
                check.due(bits + " bits, number " + i, x.write(2, i, -1), 0);
            }
            x.sheet(2, bits, 3);
            check.due("fewer: number 2", x.write(2, 2, -1), 0);
            check.due("fewer: number 3", x.write(2, 3, -1), Check.BEYOND);
            x.sheet(2, bits, 40);
            check.due("more: number 3", x.write(2, 3, -1), 0);
            check.due("more: number 39", x.write(2, 39, -1), 0);
        }
    }

    /** "Number i of a sheet becomes v ..: what it was. BEYOND: no such sheet. MISSING. BEYOND: no such number." */
    private static void writeTakesNumbersThatAreThere() {
        edge.range("write to number of 0", Edge::full, (x, v) -> x.write(0, v, 1), Edge.from(0, 3), 5, 8);
        edge.range("write to number of 1", Edge::full, (x, v) -> x.write(1, v, 1), Edge.from(0, 2), 1000, 1002);
        edge.range("write to number of 2", Edge::full, (x, v) -> x.write(2, v, 1), Edge.from(0, 1),
                1L << 40, (1L << 40) + 1);
        edge.range("write to number of 40", () -> withSheet(64, 40), (x, v) -> x.write(3, v, 1), Edge.from(0, 39), 0, 0);
        edge.range("write to number of 1", () -> withSheet(8, 1), (x, v) -> x.write(3, v, 1), Edge.from(0, 0), 0, 0);
        for (int i : new int[] {-1, 0, 1}) {
            edge.refuses("write to number " + i + " of none", () -> withSheet(16, 0), x -> x.write(3, i, 1),
                    Check.BEYOND);
        }
    }

    private static HushAtFour withSheet(int bits, int n) {
        HushAtFour x = Edge.full();
        x.sheet(3, bits, n);
        return x;
    }

    /** ".. becomes v (its lowest bits)": a wrap-around. */
    private static void writeKeepsTheLowestBits() {
        keeps(8, 127, 127);
        keeps(8, 128, -128);
        keeps(8, 255, -1);
        keeps(8, 256, 0);
        keeps(8, -128, -128);
        keeps(8, -129, 127);
        keeps(16, 32767, 32767);
        keeps(16, 32768, -32768);
        keeps(16, 65535, -1);
        keeps(16, 65536, 0);
        keeps(16, -32768, -32768);
        keeps(16, -32769, 32767);
        keeps(64, 1L << 32, 1L << 32);
        keeps(64, Integer.MIN_VALUE - 1L, Integer.MIN_VALUE - 1L);
        for (int bits : new int[] {8, 16, 64}) {
            keeps(bits, 0, 0);
            keeps(bits, -1, -1);
            keeps(bits, Long.MAX_VALUE, bits == 64 ? Long.MAX_VALUE : -1);
            keeps(bits, Long.MIN_VALUE, bits == 64 ? Long.MIN_VALUE : 0);
        }
    }

    private static void keeps(int bits, long v, long due) {
        HushAtFour x = withSheet(bits, 3);
        check.due("write of " + v, x.write(3, 1, v), 0);
        check.due(bits + " bits of " + v, x.write(3, 1, 0), due);
        check.due("the number ahead", x.write(3, 0, 0), 0);
        check.due("the number behind", x.write(3, 2, 0), 0);
    }

    /** In this order. */
    private static void writesFindingsInOrder() {
        for (int s : new int[] {-1, 4, LEAST, MOST}) {
            edge.refuses("write to sheet " + s, Edge::full, x -> x.write(s, 0, 1), Check.BEYOND);
            edge.refuses("write to sheet " + s + ", number -1", Edge::full, x -> x.write(s, -1, 1), Check.BEYOND);
        }
        for (int i : new int[] {-1, 0, 40, LEAST, MOST}) {
            edge.refuses("write to a missing one, number " + i, Edge::full, x -> x.write(3, i, 1), Check.MISSING);
        }
    }

    /** "FINDINGS are answers .. (in longs, too)": but what a sheet held is none. */
    private static void aNumberThatLooksLikeAFinding() {
        HushAtFour x = withSheet(64, 1);
        int before = x.status(-1);
        for (long finding = Check.SIZE; finding <= Check.BEYOND; finding++) {
            x.write(3, 0, finding);
            check.due("what was written", x.write(3, 0, 0), finding);
        }
        check.due("status(-1)", x.status(-1), before);
        check.due("write beyond, in longs", x.write(4, 0, 0), -1000000001L);
        check.due("write to a missing one, in longs", new HushAtFour().write(0, 0, 0), -1000000006L);
    }

    /** Sheet 0: 16 bits, 10 to 15; 1: 16 bits, four times 0; 2: 64 bits, 6 times 0; 3 is missing. */
    private static HushAtFour withRows() {
        HushAtFour x = new HushAtFour();
        x.sheet(0, 16, 6);
        x.sheet(1, 16, 4);
        x.sheet(2, 64, 6);
        for (int i = 0; i < 6; i++) {
            x.write(0, i, 10 + i);
        }
        return x;
    }

    private static String row(HushAtFour x, int s, int n) {
        StringBuilder row = new StringBuilder();
        for (int i = 0; i < n; i++) {
            row.append(x.write(s, i, 0)).append(' ');
        }
        return row.toString();
    }

    private static void copies(String told, int s, int from, int t, int to, int n, String due) {
        HushAtFour x = withRows();
        check.due(told, x.copy(s, from, t, to, n), n);
        check.same(told, row(x, t, t == 0 ? 6 : 4), due);
        check.due("status(-1)", x.status(-1), 0);
        if (s != t) {
            check.same(told + ", where it came from", row(x, s, 6), "10 11 12 13 14 15 ");
        }
    }

    private static void copyRefuses(String told, int s, int from, int t, int to, int n, int finding) {
        edge.refuses("copy " + told, SheetsEdgeTest::withRows, x -> x.copy(s, from, t, to, n), finding);
    }

    /** "n numbers of a sheet from one on come to another one from one on ..: n." "BEYOND: one has not so many, .." */
    private static void copyUpToTheLast() {
        copies("from 0, all of the second", 0, 0, 1, 0, 4, "10 11 12 13 ");
        copyRefuses("from 0, one more than the second has", 0, 0, 1, 0, 5, Check.BEYOND);
        copies("to the last of the second", 0, 2, 1, 3, 1, "0 0 0 12 ");
        copyRefuses("to behind the last of the second", 0, 2, 1, 4, 1, Check.BEYOND);
        copies("from the last of the first", 0, 5, 1, 0, 1, "15 0 0 0 ");
        copyRefuses("from behind the last of the first", 0, 6, 1, 0, 1, Check.BEYOND);
        copies("the last three of the first", 0, 3, 1, 1, 3, "0 13 14 15 ");
        copyRefuses("one more than the first has", 0, 4, 1, 0, 3, Check.BEYOND);
        copyRefuses("one more than the second has", 0, 0, 1, 2, 3, Check.BEYOND);
        copies("none", 0, 0, 1, 0, 0, "0 0 0 0 ");
        copies("none, from and to behind the last", 0, 6, 1, 4, 0, "0 0 0 0 ");
        copyRefuses("none, from farther", 0, 7, 1, 4, 0, Check.BEYOND);
        copyRefuses("none, to farther", 0, 6, 1, 5, 0, Check.BEYOND);
        HushAtFour x = new HushAtFour();
        x.sheet(0, 8, 40);
        x.sheet(1, 8, 40);
        x.write(0, 39, 9);
        check.due("40 numbers", x.copy(0, 0, 1, 0, 40), 40);
        check.due("the last of them", x.write(1, 39, 0), 9);
        x.sheet(1, 8, 0);
        check.due("none to none", x.copy(0, 40, 1, 0, 0), 0);
        check.due("one to none", x.copy(0, 0, 1, 0, 1), Check.BEYOND);
    }

    /** "(as they all were)" */
    private static void copyAsTheyAllWere() {
        copies("up by one", 0, 0, 0, 1, 5, "10 10 11 12 13 14 ");
        copies("down by one", 0, 1, 0, 0, 5, "11 12 13 14 15 15 ");
        copies("up by five", 0, 0, 0, 5, 1, "10 11 12 13 14 10 ");
        copies("onto itself", 0, 0, 0, 0, 6, "10 11 12 13 14 15 ");
    }

    /** "BEYOND: no such sheet (either). MISSING: one is. KIND: .. BEYOND: .. or from, to or n is below 0." in this order. */
    private static void copysFindingsInOrder() {
        for (int s : new int[] {-1, 4, LEAST, MOST}) {
            copyRefuses("from sheet " + s, s, 0, 0, 0, 1, Check.BEYOND);
            copyRefuses("to sheet " + s, 0, 0, s, 0, 1, Check.BEYOND);
            copyRefuses("from sheet " + s + " to a missing one", s, 0, 3, 0, 1, Check.BEYOND);
            copyRefuses("from a missing one to sheet " + s, 3, 0, s, 0, 1, Check.BEYOND);
        }
        for (int n : new int[] {-1, 1, 99}) {
            copyRefuses("from a missing one, " + n, 3, 0, 0, 0, n, Check.MISSING);
            copyRefuses("to a missing one, " + n, 0, 0, 3, 0, n, Check.MISSING);
            copyRefuses("from and to a missing one, " + n, 3, 0, 3, 0, n, Check.MISSING);
            copyRefuses("to one of more bits, " + n, 0, 0, 2, 0, n, Check.KIND);
            copyRefuses("to one of fewer bits, " + n, 2, 0, 0, 0, n, Check.KIND);
        }
        copyRefuses("of other bits, none", 0, 0, 2, 0, 0, Check.KIND);
        copyRefuses("of other bits, from -1", 0, -1, 2, 0, 0, Check.KIND);
        for (int v : new int[] {-1, LEAST, MOST}) {
            copyRefuses("from " + v, 0, v, 1, 0, 1, Check.BEYOND);
            copyRefuses("to " + v, 0, 0, 1, v, 1, Check.BEYOND);
            copyRefuses("so many: " + v, 0, 0, 1, 0, v, Check.BEYOND);
            copyRefuses("none from " + v, 0, v, 1, 0, 0, Check.BEYOND);
            copyRefuses("none to " + v, 0, 0, 1, v, 0, Check.BEYOND);
            copyRefuses("all of them " + v, 0, v, 1, v, v, Check.BEYOND);
        }
        copyRefuses("a sum that wraps around", 0, 2, 1, 0, MOST, Check.BEYOND);
        copyRefuses("a sum that wraps around to 0", 0, LEAST, 1, 0, LEAST, Check.BEYOND);
        copyRefuses("-1 from 1", 0, 1, 1, 1, -1, Check.BEYOND);
    }

    private static void lays(int bits, long v, int came, int noise) {
        HushAtFour x = new HushAtFour();
        x.sheet(1, bits, 4);
        x.write(1, 3, v);
        check.due("lays of " + v + " in " + bits + " bits", x.lays(1), 3 + came);
        check.due("NOISE of house 3 then", x.house(3, 0), noise);
    }

    /** "(those that aren't 0 to 20 .. are left out): how many came." */
    private static void laysFrom0To20() {
        for (int bits : new int[] {8, 16, 64}) {
            lays(bits, 0, 1, 0);
            lays(bits, 20, 1, 20);
            lays(bits, 21, 0, 5);
            lays(bits, -1, 0, 5);
        }
        lays(8, 256 + 20, 1, 20);
        lays(8, 255, 0, 5);
        lays(8, 128, 0, 5);
        lays(16, 256, 0, 5);
        lays(16, 65536 + 7, 1, 7);
        lays(64, 65536 + 7, 0, 5);
        lays(64, (1L << 32) + 7, 0, 5);
        lays(64, Long.MIN_VALUE + 7, 0, 5);
    }

    /** "Numbers of a sheet become NOISE of houses 0, 1, .. (those that .. stand for none, are left out)" */
    private static void laysForHousesAlone() {
        for (int n : new int[] {0, 1, 29, 30, 31, 40}) {
            HushAtFour x = new HushAtFour();
            x.sheet(3, 8, n);
            for (int i = 0; i < n; i++) {
                x.write(3, i, 20);
            }
            check.due("lays of " + n, x.lays(3), Math.min(30, n));
            for (int house = 0; house < 30; house++) {
                check.due("lays of " + n + ", house " + house, x.house(house, 0), house < n ? 20 : 4 * house % 7);
            }
        }
    }

    /** "BEYOND: no such sheet. MISSING." in this order. */
    private static void laysFindingsInOrder() {
        edge.range("lays", () -> withSheet(8, 3), (x, v) -> x.lays(v), Edge.from(0, 3), 4, 3);
        edge.beyond("lays, all missing", HushAtFour::new, (x, v) -> x.lays(v), Edge.from(0, 3));
        edge.refuses("lays of a missing one", Edge::full, x -> x.lays(3), Check.MISSING);
    }

    /** "house of one ON 0, 1, 2, .. MINUTES comes to a sheet, as many as it has numbers: how many." */
    private static void bookAsManyAsItHas() {
        for (int n : new int[] {0, 1, 2, 39, 40}) {
            edge.takes("book of " + n, () -> withSheet(8, n), x -> x.book(3, 7), n);
            HushAtFour x = withSheet(16, n);
            x.book(3, 7);
            HushAtFour then = Edge.full();
            for (int i = 0; i < n; i++) {
                check.due("book of " + n + ", number " + i, x.write(3, i, 0), then.of(7, 1));
                then.minutes(1);
            }
        }
        HushAtFour x = withSheet(64, 40);
        x.book(3, 7);
        x.sheet(3, 0, 0);
        check.same("nothing changes but the sheet", Edge.all(x), Edge.all(Edge.full()));
    }

    /** "BEYOND: no such sheet. MISSING. BEYOND: person." in this order. */
    private static void booksFindingsInOrder() {
        edge.range("book to", () -> withSheet(8, 3), (x, v) -> x.book(v, 0), Edge.from(0, 3), 4, 3);
        edge.range("book of", Edge::full, (x, v) -> x.book(1, v), Edge.from(0, 7), 3, 3);
        edge.beyond("book to, of nobody", Edge::full, (x, v) -> x.book(v, 8), Edge.from(0, 3));
        for (int p : new int[] {-1, 0, 8}) {
            edge.refuses("book to a missing one, of " + p, Edge::full, x -> x.book(3, p), Check.MISSING);
            edge.refuses("book of " + p + ", nobody there", () -> Edge.withPeople(0), x -> x.book(0, p), Check.BEYOND);
        }
        edge.refuses("book of nobody, no numbers", () -> withSheet(8, 0), x -> x.book(3, 8), Check.BEYOND);
    }

    /** "how many pairs of a KIND and a house (0 to 29) now make it just so." */
    private static void readFromNoneToAll() {
        edge.takes("read of no numbers", () -> withSheet(8, 0), x -> x.read(3, 0), 180);
        for (int house : new int[] {0, 29}) {
            edge.takes("read of one number " + house, () -> withNumber(8, house), x -> x.read(3, 0), 6);
            edge.takes("read of its lowest bits " + house, () -> withNumber(8, 256 + house), x -> x.read(3, 0), 6);
            edge.takes("read of all its bits " + house, () -> withNumber(64, 256 + house), x -> x.read(3, 0), 0);
            edge.takes("read of all its bits " + house, () -> withNumber(64, (1L << 32) + house), x -> x.read(3, 0), 0);
        }
        for (int house : new int[] {-1, 30}) {
            edge.takes("read of one number " + house, () -> withNumber(8, house), x -> x.read(3, 0), 0);
        }
        HushAtFour x = new HushAtFour();
        x.person(3, 29);
        x.sheet(0, 8, 40);
        x.book(0, 0);
        check.due("read of a dog's 40", x.read(0, 0), 1);
        x.write(0, 39, x.write(0, 39, 0) + 1);
        check.due("read of 40, the last of which is wrong", x.read(0, 0), 0);
        HushAtFour y = withSheet(64, 40);
        y.read(3, 7);
        y.sheet(3, 0, 0);
        check.same("nothing changes", Edge.all(y), Edge.all(Edge.full()));
    }

    private static HushAtFour withNumber(int bits, long number) {
        HushAtFour x = withSheet(bits, 1);
        x.write(3, 0, number);
        return x;
    }

    /** "BEYOND: no such sheet. MISSING. BEYOND: person." in this order. */
    private static void readsFindingsInOrder() {
        edge.range("read of", Edge::full, (x, v) -> x.read(1, v), Edge.from(0, 7), 0, 0);
        edge.range("read from", () -> withSheet(8, 0), (x, v) -> x.read(v, 7), Edge.from(0, 3), 0, 180);
        edge.beyond("read from, of nobody", Edge::full, (x, v) -> x.read(v, 8), Edge.from(0, 3));
        for (int p : new int[] {-1, 0, 8}) {
            edge.refuses("read of a missing one, of " + p, Edge::full, x -> x.read(3, p), Check.MISSING);
            edge.refuses("read of " + p + ", nobody there", () -> Edge.withPeople(0), x -> x.read(0, p), Check.BEYOND);
        }
        edge.refuses("read of nobody, no numbers", () -> withSheet(8, 0), x -> x.read(3, 8), Check.BEYOND);
    }
}
