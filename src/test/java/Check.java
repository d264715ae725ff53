import java.util.function.LongSupplier;

/** Counts the answers that are not as due, and ends a test with exit code 1 if there was one. */
final class Check {
    static final int BEYOND = -1000000001;
    static final int FULL = -1000000002;
    static final int KIND = -1000000003;
    static final int NONE = -1000000004;
    static final int STATE = -1000000005;
    static final int MISSING = -1000000006;
    static final int SIZE = -1000000007;

    private final String name;
    private int asked;
    private int wrong;

    Check(String name) {
        this.name = name;
    }

    void due(String what, long got, long want) {
        asked++;
        if (got != want) {
            wrong++;
            System.out.println(name + ": " + what + " answered " + got + ", due is " + want);
        }
    }

    void same(String what, String got, String want) {
        asked++;
        if (!got.equals(want)) {
            wrong++;
            System.out.println(name + ": " + what + " was\n  " + got + "\ndue is\n  " + want);
        }
    }

    /** The call answers this finding and counts it once; Edge.refuses asks, besides, that nothing else changes. */
    void refused(String what, HushAtFour x, LongSupplier call, int finding) {
        int all = x.status(-1);
        int these = x.status(BEYOND - finding);
        due(what, call.getAsLong(), finding);
        due(what + ", then status(-1)", x.status(-1), all + 1);
        due(what + ", then status of it", x.status(BEYOND - finding), these + 1);
    }

    /** What there is and what the sheets hold, whose numbers are written over and back. */
    static String look(HushAtFour x) {
        StringBuilder seen = new StringBuilder();
        for (int what = 0; what <= 7; what++) {
            seen.append(x.now(what)).append(' ');
        }
        for (int house = 0; house < 30; house++) {
            seen.append(x.house(house, 0)).append(' ');
        }
        for (int p = 0; p < x.count(0); p++) {
            for (int what = 0; what <= 7; what++) {
                seen.append(x.of(p, what)).append(' ');
            }
        }
        for (int what = 0; what <= 3; what++) {
            seen.append(x.count(what)).append(' ');
        }
        for (int s = 0; s < 4; s++) {
            lookAtSheet(x, s, seen);
        }
        return seen.toString();
    }

    private static void lookAtSheet(HushAtFour x, int s, StringBuilder seen) {
        for (int i = 0; i < 40; i++) {
            long number = x.write(s, i, 0);
            seen.append(number).append(' ');
            if (number == BEYOND || number == MISSING) {
                return;
            }
            x.write(s, i, number);
        }
    }

    static void feed(HushAtFour x, String text) {
        for (int i = 0; i < text.length(); i++) {
            x.feed(text.charAt(i), 1);
        }
    }

    static int town(HushAtFour x, String text) {
        feed(x, text);
        return x.town();
    }

    void end() {
        System.out.println(name + ": " + asked + " asked, " + wrong + " not as due");
        if (wrong != 0) {
            System.exit(1);
        }
    }
}
