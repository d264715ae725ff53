import java.util.function.Supplier;

/** Calls at the document's bounds: each on a town of its own, compared with a twin that was never asked. */
final class Edge {
    interface Call {
        long on(HushAtFour x);
    }

    interface Tried {
        long on(HushAtFour x, int v);
    }

    private final Check check;

    Edge(Check check) {
        this.check = check;
    }

    /** The call answers this finding, which is counted once, and nothing else changes that any call could tell. */
    void refuses(String told, Supplier<HushAtFour> made, Call call, int finding) {
        HushAtFour x = made.get();
        HushAtFour twin = made.get();
        check.due(told, call.on(x), finding);
        for (int which = -1; which <= 6; which++) {
            int more = which == -1 || which == Check.BEYOND - finding ? 1 : 0;
            check.due(told + ", then status(" + which + ")", x.status(which), twin.status(which) + more);
        }
        check.same(told + ", then all", all(x), all(twin));
    }

    /** The call answers this, and no finding is counted. */
    void takes(String told, Supplier<HushAtFour> made, Call call, long answer) {
        HushAtFour x = made.get();
        HushAtFour twin = made.get();
        check.due(told, call.on(x), answer);
        check.due(told + ", then status(-1)", x.status(-1), twin.status(-1));
    }

    /** Answers at the two last numbers that are taken; those beside them, and the farthest off, are BEYOND. */
    void range(String told, Supplier<HushAtFour> made, Tried call, int[] leastAndMost, long... answers) {
        int least = leastAndMost[0];
        int most = leastAndMost[1];
        takes(told + " " + least, made, x -> call.on(x, least), answers[0]);
        takes(told + " " + most, made, x -> call.on(x, most), answers[1]);
        beyond(told, made, call, leastAndMost);
    }

    void beyond(String told, Supplier<HushAtFour> made, Tried call, int[] leastAndMost) {
        int[] outside = {leastAndMost[0] - 1, leastAndMost[1] + 1, Integer.MIN_VALUE, Integer.MAX_VALUE};
        for (int v : outside) {
            refuses(told + " " + v, made, x -> call.on(x, v), Check.BEYOND);
        }
    }

    static int[] from(int least, int most) {
        return new int[] {least, most};
    }

    /** Some of eight people in the second day, at EDGE 12, with sheets, a text on THE TAPE, and another town kept. */
    static HushAtFour withPeople(int people) {
        HushAtFour x = new HushAtFour();
        int[] kinds = {0, 1, 2, 3, 4, 5, 1, 2};
        x.noise(4, 19);
        for (int p = 0; p < Math.min(2, people); p++) {
            x.person(kinds[p], p);
        }
        x.minutes(33);
        x.image();
        for (int p = 2; p < people; p++) {
            x.person(kinds[p], 2 * p);
        }
        x.hush(1, 5);
        x.hush(2, 2);
        x.noise(7, 11);
        x.minutes(103);
        for (int p = 0; p < people; p++) {
            x.set(p, 1, 8 + p);
            x.set(p, 2, 100 + p);
            x.set(p, 3, p % 4);
        }
        x.sheet(0, 8, 4);
        x.sheet(1, 16, 3);
        x.sheet(2, 64, 2);
        for (int i = 0; i < 4; i++) {
            x.write(0, i, 5 + i);
            x.write(1, i, 1000 + i);
            x.write(2, i, (1L << 40) + i);
        }
        Check.feed(x, "pace 4;house 3 9");
        x.lays(3);
        x.sheet(3, 8, -1);
        return x;
    }

    static HushAtFour some() {
        return withPeople(3);
    }

    static HushAtFour full() {
        return withPeople(8);
    }

    /** All that calls can tell but status(): the sheets, what there is, what the text makes of it, and what is kept. */
    static String all(HushAtFour x) {
        StringBuilder seen = new StringBuilder();
        for (int s = 0; s < 4; s++) {
            sheet(x, s, seen);
        }
        town(x, seen);
        seen.append(" town() ").append(x.town());
        town(x, seen);
        seen.append(" undo() ").append(x.undo());
        town(x, seen);
        return seen.toString();
    }

    /** The numbers up to where there is none, each with what is left of one that has a bit in all widths. */
    private static void sheet(HushAtFour x, int s, StringBuilder seen) {
        seen.append(" sheet ").append(s);
        for (int i = 0; i <= 40; i++) {
            long number = x.write(s, i, 1L << 62 | 1 << 14 | 1);
            seen.append(' ').append(number);
            if (number == Check.BEYOND || number == Check.MISSING) {
                return;
            }
            seen.append(':').append(x.write(s, i, 0));
        }
    }

    private static void town(HushAtFour x, StringBuilder seen) {
        seen.append(" now");
        for (int what = 0; what <= 7; what++) {
            seen.append(' ').append(x.now(what));
        }
        seen.append(" noise");
        for (int house = 0; house < 30; house++) {
            seen.append(' ').append(x.house(house, 0));
        }
        int people = x.count(0);
        seen.append(" tape ").append(x.count(1)).append(" people ").append(people);
        for (int p = 0; p < people; p++) {
            for (int what : new int[] {0, 1, 2, 3, 7}) {
                seen.append(' ').append(x.of(p, what));
            }
        }
    }
}
