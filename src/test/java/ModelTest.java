import java.util.Random;

/** Long runs of calls, drawn from a fixed seed, each answered by the class and by the model. */
public final class ModelTest {
    private static final Check check = new Check("ModelTest");
    private static final String[] CALLS = {
        "noise", "hush", "house", "now", "person", "of", "set", "turn", "as", "minutes", "on", "heard", "reaches",
        "catches", "out", "where", "kind", "wide", "pace", "four", "still", "quietest", "feed", "wipe", "town",
        "sheet", "write", "copy", "lays", "book", "read", "image", "undo", "tear", "count", "status",
        "minutes", "minutes", "minutes", "person", "set", "hush", "of", "of", "now", "now", "text", "text", "book+"};
    private static final String[] WORDS = {
        "walker", "pedlar", "child", "dog", "doctor", "runner", "at", "house", "four", "wide", "pace", ";", ";", " ",
        "x", "#", "0", "1", "5", "9", "10", "20", "29", "30", "99", "100", "1000", "007"};
    private static final int[] ODD = {
        Integer.MIN_VALUE, Integer.MAX_VALUE, -1000000001, -2, -1, 30, 41, 64, 100, 101, 200, 201, 400, 401, 9999, 10000};

    private static Random random;

    public static void main(String[] args) {
        int runs = args.length > 0 ? Integer.parseInt(args[0]) : 40;
        for (int run = 0; run < runs; run++) {
            random = new Random(4000 + run);
            run(run);
        }
        check.end();
    }

    private static int below(int n) {
        return random.nextInt(n);
    }

    /** Mostly a number that may be, now and then one that may not. */
    private static int some(int least, int most) {
        if (below(25) == 0) {
            return ODD[below(ODD.length)];
        }
        if (below(25) == 0) {
            return below(2) == 0 ? least - 1 : most + 1;
        }
        if (below(6) == 0) {
            return below(2) == 0 ? least : most;
        }
        return least + below(most - least + 1);
    }

    private static void run(int run) {
        HushAtFour x = new HushAtFour();
        Model m = new Model();
        for (int i = 0; i < 500; i++) {
            String name = CALLS[below(CALLS.length)];
            if (name.equals("text")) {
                i += text(run, x, m);
            } else if (name.equals("book+")) {
                int s = some(0, 3);
                int p = some(0, 7);
                both(run, x, m, "sheet", s, 8 << below(2), some(1, 12), 0, 0, 0);
                both(run, x, m, "book", s, p, 0, 0, 0, 0);
                both(run, x, m, "read", s, below(8), 0, 0, 0, 0);
                i += 2;
            } else {
                one(run, x, m, name);
            }
        }
    }

    private static int text(int run, HushAtFour x, Model m) {
        StringBuilder text = new StringBuilder();
        int items = 1 + below(4);
        for (int i = 0; i < items; i++) {
            if (i > 0) {
                text.append(below(15) == 0 ? " " : below(2) == 0 ? ";" : " ; ");
            }
            item(text);
        }
        int fed = 0;
        while (fed < text.length()) {
            int n = Math.min(1 + below(4), text.length() - fed);
            int bytes = random.nextInt();
            for (int i = 0; i < n; i++) {
                bytes = bytes << 8 | text.charAt(fed + i);
            }
            both(run, x, m, "feed", bytes, n, 0, 0, 0, 0);
            fed += n;
        }
        both(run, x, m, "town", 0, 0, 0, 0, 0, 0);
        return 20;
    }

    private static void item(StringBuilder text) {
        switch (below(8)) {
            case 0: text.append("house ").append(below(31)).append(' ').append(below(22)); break;
            case 1: text.append("four ").append(below(104)); break;
            case 2: text.append("wide ").append(below(12)); break;
            case 3: text.append("pace").append(below(7)); break;
            case 4: text.append(WORDS[below(6)]); break;
            case 5: text.append(WORDS[below(6)]).append(" at ").append(below(31)); break;
            case 6: text.append(WORDS[below(6)]).append(' ').append(WORDS[below(WORDS.length)]); break;
            default:
                int words = below(4);
                for (int i = 0; i < words; i++) {
                    text.append(WORDS[below(WORDS.length)]).append(below(3) == 0 ? "" : " ");
                }
        }
    }

    private static void one(int run, HushAtFour x, Model m, String name) {
        int a = 0;
        int b = 0;
        int c = 0;
        int d = 0;
        int e = 0;
        long v = 0;
        switch (name) {
            case "noise": a = some(0, 29); b = some(0, 20); break;
            case "hush": a = some(0, 2); b = some(0, a == 0 ? 99 : a == 1 ? 10 : 5); break;
            case "house": a = some(0, 29); b = some(0, 2); break;
            case "now": a = some(0, 7); break;
            case "person": a = some(0, 5); b = some(0, 29); break;
            case "of": a = some(0, 7); b = some(0, 7); break;
            case "set": a = some(0, 7); b = some(1, 3); c = some(0, b == 1 ? 29 : b == 2 ? 9999 : 4); break;
            case "turn": case "as": a = some(0, 7); b = some(0, 5); break;
            case "minutes": a = below(4) == 0 ? some(1, 200) : some(1, 12); break;
            case "on": a = some(0, 7); b = some(0, 400); c = some(0, 2); break;
            case "heard": case "quietest": a = some(0, 400); break;
            case "reaches": a = some(0, 29); break;
            case "catches": a = some(0, 7); break;
            case "where": case "kind": a = some(0, 7); b = below(2) == 0 ? some(1, 200) : some(1, 30); break;
            case "wide": case "pace": case "four": case "still": a = below(2) == 0 ? some(1, 100) : some(0, 20); break;
            case "feed": a = random.nextInt(); b = some(1, 4); break;
            case "sheet": a = some(0, 3); b = below(9) == 0 ? 0 : 8 << below(5) & 0x58; c = some(0, 40); break;
            case "write": a = some(0, 3); b = some(0, 20); v = below(3) == 0 ? random.nextLong() : below(33); break;
            case "copy": a = some(0, 3); b = some(0, 9); c = some(0, 3); d = some(0, 9); e = some(0, 12); break;
            case "lays": a = some(0, 3); break;
            case "book": case "read": a = some(0, 3); b = some(0, 7); break;
            case "count": a = some(0, 3); break;
            case "status": a = some(-1, 6); break;
            case "tear": if (below(3) > 0) { return; } break;
            default: break;
        }
        both(run, x, m, name, a, b, c, d, e, v);
    }

    private static void both(int run, HushAtFour x, Model m, String name, int a, int b, int c, int d, int e, long v) {
        String told = "run " + run + ": " + name + "(" + a + ", " + b + ", " + c + ", " + d + ", " + e + ", " + v + ")";
        check.due(told, ask(x, name, a, b, c, d, e, v), m.call(name, a, b, c, d, e, v));
    }

    private static long ask(HushAtFour x, String name, int a, int b, int c, int d, int e, long v) {
        switch (name) {
            case "noise": return x.noise(a, b);
            case "hush": return x.hush(a, b);
            case "house": return x.house(a, b);
            case "now": return x.now(a);
            case "person": return x.person(a, b);
            case "of": return x.of(a, b);
            case "set": return x.set(a, b, c);
            case "turn": return x.turn(a, b);
            case "as": return x.as(a, b);
            case "minutes": return x.minutes(a);
            case "on": return x.on(a, b, c);
            case "heard": return x.heard(a);
            case "reaches": return x.reaches(a);
            case "catches": return x.catches(a);
            case "out": return x.out();
            case "where": return x.where(a, b);
            case "kind": return x.kind(a, b);
            case "wide": return x.wide(a);
            case "pace": return x.pace(a);
            case "four": return x.four(a);
            case "still": return x.still(a);
            case "quietest": return x.quietest(a);
            case "feed": return x.feed(a, b);
            case "wipe": return x.wipe();
            case "town": return x.town();
            case "sheet": return x.sheet(a, b, c);
            case "write": return x.write(a, b, v);
            case "copy": return x.copy(a, b, c, d, e);
            case "lays": return x.lays(a);
            case "book": return x.book(a, b);
            case "read": return x.read(a, b);
            case "image": return x.image();
            case "undo": return x.undo();
            case "tear": return x.tear();
            case "count": return x.count(a);
            case "status": return x.status(a);
            default: throw new IllegalArgumentException(name);
        }
    }
}
