import java.util.ArrayList;
import java.util.List;
import java.util.function.Consumer;
import java.util.function.ToIntFunction;
import java.util.regex.Matcher;
import java.util.regex.Pattern;

/** The document once more, told another way and with no thought of room or speed, to compare answers with. */
final class Model {
    /** A KIND as a class under the one above it, so that what isn't told is as there. */
    static class Walker {
        int goes(Street s, Person p) { return 0; }
        int goesWithout() { return 0; }
        int talks(Street s) { return 2; }
        int talksInIt(Street s) { return 0; }
        boolean stepsOver(int c) { return c >= 3; }
    }

    static class Pedlar extends Walker {
        @Override int goes(Street s, Person p) { return s.taken().contains(p.house) ? s.pace : 0; }
        @Override int talks(Street s) { return super.talks(s) + 3; }
        @Override boolean stepsOver(int c) { return false; }
    }

    static class Child extends Walker {
        @Override int goes(Street s, Person p) {
            int e = s.edge() - p.house;
            return e >= -3 && e <= 0 ? 2 : 0;
        }
        @Override int talks(Street s) { return 2 * super.talks(s); }
    }

    static class Dog extends Walker {
        @Override int goes(Street s, Person p) {
            int e = s.edge() - p.house;
            return e > 4 ? 4 : e < -4 ? -4 : e;
        }
        @Override int goesWithout() { return -1; }
        @Override int talks(Street s) { return 1; }
        @Override boolean stepsOver(int c) { return true; }
    }

    static final class Doctor extends Pedlar {
        @Override int goes(Street s, Person p) { return s.minute % 100 % 5 == 0 ? 0 : super.goes(s, p); }
        @Override int talks(Street s) { return super.talks(s) + talksInIt(s); }
        @Override int talksInIt(Street s) { return s.minute % 100 % 5 == 0 ? 1 : 0; }
    }

    static final class Runner extends Child {
        @Override int goes(Street s, Person p) { return super.goes(s, p) + (s.edge() == p.house ? 1 : 0); }
        @Override int talks(Street s) { return super.talks(s) - 1; }
        @Override boolean stepsOver(int c) { return super.stepsOver(c) || c >= 1; }
    }

    static final List<Walker> KINDS =
            List.of(new Walker(), new Pedlar(), new Child(), new Dog(), new Doctor(), new Runner());
    static final List<String> NAMES = List.of("walker", "pedlar", "child", "dog", "doctor", "runner");

    static final class Person {
        int kind;
        int house;
        int quiet;
        int caught;
        boolean was;

        Person(int kind, int house) {
            this.kind = kind;
            this.house = house;
        }

        Person twin() {
            Person t = new Person(kind, house);
            t.quiet = quiet;
            t.caught = caught;
            t.was = was;
            return t;
        }

        Walker ways() { return KINDS.get(kind); }
    }

    static final class Street {
        int minute = 0;
        int four = 30;
        int wide = 3;
        int pace = 1;
        final List<Integer> noise = new ArrayList<>();
        final List<Person> people = new ArrayList<>();

        Street() {
            for (int i = 0; i < 30; i++) noise.add(4 * i % 7);
        }

        Street twin() {
            Street t = new Street();
            t.minute = minute;
            t.four = four;
            t.wide = wide;
            t.pace = pace;
            t.noise.clear();
            t.noise.addAll(noise);
            for (Person p : people) t.people.add(p.twin());
            return t;
        }

        int edge() { return pace * (minute % 100 - four); }

        List<Integer> taken() {
            List<Integer> houses = new ArrayList<>();
            if (minute % 100 < four) return houses;
            for (int i = 0; i < wide; i++) {
                int h = edge() - i;
                if (h >= 0 && h <= 29) houses.add(h);
            }
            return houses;
        }

        boolean isHush() { return !taken().isEmpty(); }

        int goes(Person p) { return isHush() ? p.ways().goes(this, p) : p.ways().goesWithout(); }

        int talks(Person p) { return taken().contains(p.house) ? p.ways().talksInIt(this) : p.ways().talks(this); }

        int in() {
            int set = 0;
            for (int i = 0; i < people.size(); i++) if (taken().contains(people.get(i).house)) set += 1 << i;
            return set;
        }

        int heard() {
            int sum = 0;
            for (int i = 0; i < 30; i++) if (!taken().contains(i)) sum += noise.get(i);
            for (Person p : people) sum += talks(p);
            return sum;
        }

        Street go(int n) {
            for (int i = 0; i < n; i++) {
                List<Integer> taken = taken();
                for (Person p : people) {
                    boolean in = taken.contains(p.house);
                    if (in) {
                        if (!p.was && !p.ways().stepsOver(p.caught) && p.caught < 9999) p.caught++;
                        if (p.quiet < 9999) p.quiet++;
                    }
                    p.was = in;
                }
                for (Person p : people) p.house = Math.max(0, Math.min(29, p.house + goes(p)));
                minute++;
            }
            return this;
        }

        int quietOfAll() { return people.stream().mapToInt(p -> p.quiet).sum(); }

        int caughtOfAll() { return people.stream().mapToInt(p -> p.caught).sum(); }
    }

    private static final int BEYOND = Check.BEYOND;
    private Street now = new Street();
    private Street kept;
    private final StringBuilder tape = new StringBuilder();
    private final Object[] sheets = new Object[4];
    private final int[] findings = new int[7];

    /** Counts a finding; the caller says which answers are ones, since a number of a sheet may look like one. */
    private long found(long finding) {
        findings[(int) (BEYOND - finding)]++;
        return finding;
    }

    private boolean no(int v, int least, int most) { return v < least || v > most; }

    private boolean nobody(int p) { return no(p, 0, now.people.size() - 1); }

    private int best(int from, int to, ToIntFunction<Integer> worth) {
        int best = from;
        for (int i = from; i <= to; i++) if (worth.applyAsInt(i) > worth.applyAsInt(best)) best = i;
        return best;
    }

    private Street with(Consumer<Street> change, int n) {
        Street t = now.twin();
        change.accept(t);
        return t.go(n);
    }

    private Street on(int n) { return with(t -> { }, n); }

    private int size(int s) { return java.lang.reflect.Array.getLength(sheets[s]); }

    private long number(int s, int i) { return java.lang.reflect.Array.getLong(sheets[s], i); }

    private void put(int s, int i, long v) {
        if (sheets[s] instanceof byte[] b) b[i] = (byte) v;
        if (sheets[s] instanceof short[] b) b[i] = (short) v;
        if (sheets[s] instanceof long[] b) b[i] = v;
    }

    long call(String name, int a, int b, int c, int d, int e, long v) {
        int people = now.people.size();
        switch (name) {
            case "noise": return no(a, 0, 29) || no(b, 0, 20) ? found(BEYOND) : now.noise.set(a, b);
            case "hush": return hush(a, b);
            case "house": return no(a, 0, 29) || no(b, 0, 2) ? found(BEYOND) : house(a, b);
            case "now": return no(a, 0, 7) ? found(BEYOND) : List.of(now.minute, now.minute % 100,
                    now.isHush() ? 1 + now.edge() : 0, now.heard(), now.in(), now.four, now.wide, now.pace).get(a);
            case "person":
                if (no(a, 0, 5) || no(b, 0, 29)) return found(BEYOND);
                if (people == 8) return found(Check.FULL);
                now.people.add(new Person(a, b));
                return people;
            case "of": return nobody(a) || no(b, 0, 7) ? found(BEYOND) : of(now.people.get(a), b);
            case "set": return nobody(a) || no(b, 1, 3) || no(c, 0, b == 1 ? 29 : 9999) ? found(BEYOND)
                    : set(now.people.get(a), b, c);
            case "turn": {
                if (nobody(a) || no(b, 0, 5)) return found(BEYOND);
                int was = now.people.get(a).kind;
                now.people.get(a).kind = b;
                return was;
            }
            case "as":
                if (nobody(a) || no(b, 0, 5)) return found(BEYOND);
                return KINDS.get(b).getClass().isInstance(now.people.get(a).ways())
                        ? now.people.get(a).quiet : found(Check.KIND);
            case "minutes":
                if (no(a, 1, 200)) return found(BEYOND);
                if (now.minute + a > 99999) return found(Check.STATE);
                return now.go(a).in();
            case "on": {
                if (nobody(a) || no(b, 0, 400) || no(c, 0, 2)) return found(BEYOND);
                Person p = on(b).people.get(a);
                return List.of(p.house, p.quiet, p.caught).get(c);
            }
            case "heard": return no(a, 0, 400) ? found(BEYOND) : on(a).heard();
            case "reaches": return no(a, 0, 29) ? found(BEYOND) : first(t -> t.taken().contains(a) ? 1 : 0);
            case "catches": return nobody(a) ? found(BEYOND) : first(t -> t.in() >> a & 1);
            case "out": return first(t -> t.isHush() ? 0 : 1);
            case "where": return nobody(a) || no(b, 1, 200) ? found(BEYOND)
                    : best(0, 29, h -> with(t -> t.people.get(a).house = h, b).people.get(a).quiet);
            case "kind": return nobody(a) || no(b, 1, 200) ? found(BEYOND)
                    : best(0, 5, k -> with(t -> t.people.get(a).kind = k, b).people.get(a).quiet);
            case "wide": return no(a, 1, 100) ? found(BEYOND)
                    : best(0, 10, w -> with(t -> t.wide = w, a).caughtOfAll() > now.caughtOfAll() ? -1 : w);
            case "pace": return no(a, 1, 100) ? found(BEYOND)
                    : best(1, 5, w -> with(t -> t.pace = w, a).quietOfAll());
            case "four": return no(a, 0, 100) ? found(BEYOND) : best(0, 99, f -> -with(t -> t.four = f, a).heard());
            case "still": return no(a, 0, 100) ? found(BEYOND)
                    : best(0, 29, h -> -with(t -> t.noise.set(h, 0), a).heard());
            case "quietest":
                if (no(a, 0, 400)) return found(BEYOND);
                Street then = on(a);
                return people == 0 ? found(Check.NONE) : best(0, people - 1, p -> then.people.get(p).quiet);
            default: return callMore(name, a, b, c, d, e, v);
        }
    }

    private long callMore(String name, int a, int b, int c, int d, int e, long v) {
        switch (name) {
            case "feed":
                if (no(b, 1, 4)) return found(BEYOND);
                if (tape.length() + b > 120) return found(Check.FULL);
                byte[] four = java.nio.ByteBuffer.allocate(4).putInt(a).array();
                for (int i = 4 - b; i < 4; i++) tape.append((char) (four[i] & 255));
                return tape.length();
            case "wipe": {
                int had = tape.length();
                tape.setLength(0);
                return had;
            }
            case "town": {
                Street told = now.twin();
                long answer = new Text(tape.toString(), told).answer();
                if (answer >= 0) now = told;
                tape.setLength(0);
                return answer;
            }
            case "sheet":
                if (no(a, 0, 3) || !List.of(0, 8, 16, 64).contains(b)) return found(BEYOND);
                if (c < 0) return found(Check.SIZE);
                if (c > 40) return found(BEYOND);
                sheets[a] = b == 0 ? null : b == 8 ? new byte[c] : b == 16 ? new short[c] : new long[c];
                return b == 0 ? 0 : c;
            case "write": {
                if (no(a, 0, 3)) return found(BEYOND);
                if (sheets[a] == null) return found(Check.MISSING);
                if (no(b, 0, size(a) - 1)) return found(BEYOND);
                long was = number(a, b);
                put(a, b, v);
                return was;
            }
            case "copy":
                if (no(a, 0, 3) || no(c, 0, 3)) return found(BEYOND);
                if (sheets[a] == null || sheets[c] == null) return found(Check.MISSING);
                if (sheets[a].getClass() != sheets[c].getClass()) return found(Check.KIND);
                if (b < 0 || d < 0 || e < 0 || (long) b + e > size(a) || (long) d + e > size(c)) return found(BEYOND);
                System.arraycopy(sheets[a], b, sheets[c], d, e);
                return e;
            case "lays": {
                if (no(a, 0, 3)) return found(BEYOND);
                if (sheets[a] == null) return found(Check.MISSING);
                int came = 0;
                for (int i = 0; i < size(a); i++) {
                    long w = number(a, i);
                    if (i < 30 && w >= 0 && w <= 20) {
                        now.noise.set(i, (int) w);
                        came++;
                    }
                }
                return came;
            }
            case "book": case "read":
                if (no(a, 0, 3)) return found(BEYOND);
                if (sheets[a] == null) return found(Check.MISSING);
                if (nobody(b)) return found(BEYOND);
                return name.equals("book") ? book(a, b) : read(a, b);
            case "image": kept = now.twin(); return 1;
            case "undo":
                if (kept == null) return found(Check.NONE);
                now = kept.twin();
                return now.people.size();
            case "tear": {
                int had = kept == null ? 0 : 1;
                kept = null;
                return had;
            }
            case "count": return no(a, 0, 3) ? found(BEYOND) : List.of(now.people.size(), tape.length(),
                    now.noise.stream().mapToInt(i -> i).sum(), now.quietOfAll()).get(a);
            case "status":
                if (no(a, -1, 6)) return found(BEYOND);
                return a == -1 ? java.util.Arrays.stream(findings).sum() : findings[a];
            default: throw new IllegalArgumentException(name);
        }
    }

    private long hush(int what, int v) {
        if (no(what, 0, 2) || no(v, what == 2 ? 1 : 0, what == 0 ? 99 : what == 1 ? 10 : 5)) return found(BEYOND);
        int was = what == 0 ? now.four : what == 1 ? now.wide : now.pace;
        if (what == 0) now.four = v;
        if (what == 1) now.wide = v;
        if (what == 2) now.pace = v;
        return was;
    }

    private long house(int house, int what) {
        if (what == 0) return now.noise.get(house);
        if (what == 1) return now.taken().contains(house) ? 1 : 0;
        int set = 0;
        for (int i = 0; i < now.people.size(); i++) if (now.people.get(i).house == house) set += 1 << i;
        return set;
    }

    private long of(Person p, int what) {
        return List.of(p.kind, p.house, p.quiet, p.caught, 100 + now.goes(p), now.talks(p),
                p.ways().stepsOver(p.caught) ? 1 : 0, p.was ? 1 : 0).get(what);
    }

    private long set(Person p, int what, int v) {
        int was = what == 1 ? p.house : what == 2 ? p.quiet : p.caught;
        if (what == 1) p.house = v;
        if (what == 2) p.quiet = v;
        if (what == 3) p.caught = v;
        return was;
    }

    private long first(ToIntFunction<Street> is) {
        for (int n = 0; n <= 400; n++) if (is.applyAsInt(on(n)) == 1) return n;
        return found(Check.NONE);
    }

    private long book(int s, int person) {
        for (int i = 0; i < size(s); i++) put(s, i, on(i).people.get(person).house);
        return size(s);
    }

    private long read(int s, int person) {
        int pairs = 0;
        for (int k = 0; k < 6; k++) {
            for (int h = 0; h < 30; h++) {
                Street t = now.twin();
                t.people.get(person).kind = k;
                t.people.get(person).house = h;
                boolean fits = true;
                for (int i = 0; i < size(s) && fits; i++) {
                    fits = number(s, i) == t.people.get(person).house;
                    t.go(1);
                }
                if (fits) pairs++;
            }
        }
        return pairs;
    }

    /** TOKENS are cut out first, all of them; the first that doesn't fit is the fault. */
    private static final class Text {
        private static final Pattern TOKEN = Pattern.compile("([a-z]+)|([0-9]+)|(;)|( +)|([^a-z0-9; ])", Pattern.DOTALL);
        private final List<String> tokens = new ArrayList<>();
        private final List<Integer> places = new ArrayList<>();
        private final Street told;
        private int next = 0;

        Text(String text, Street told) {
            this.told = told;
            Matcher m = TOKEN.matcher(text);
            while (m.find()) {
                if (m.group(4) == null) {
                    tokens.add(m.group());
                    places.add(m.start());
                }
            }
            tokens.add("");
            places.add(text.length());
        }

        private int number(int least, int most) {
            String t = tokens.get(next);
            if (!t.matches("[0-9]+")) return -1;
            java.math.BigInteger n = new java.math.BigInteger(t);
            if (n.bitLength() > 20 || n.intValue() < least || n.intValue() > most) return -1;
            next++;
            return n.intValue();
        }

        private boolean item() {
            String t = tokens.get(next);
            if (NAMES.contains(t)) {
                if (told.people.size() == 8) return false;
                next++;
                int house = 0;
                if (tokens.get(next).equals("at")) {
                    next++;
                    house = number(0, 29);
                    if (house < 0) return false;
                }
                told.people.add(new Person(NAMES.indexOf(t), house));
                return true;
            }
            if (!List.of("house", "four", "wide", "pace").contains(t)) return false;
            next++;
            if (t.equals("house")) {
                int h = number(0, 29);
                int v = h < 0 ? -1 : number(0, 20);
                if (v < 0) return false;
                told.noise.set(h, v);
                return true;
            }
            int v = t.equals("four") ? number(0, 99) : t.equals("wide") ? number(0, 10) : number(1, 5);
            if (t.equals("four")) told.four = v;
            if (t.equals("wide")) told.wide = v;
            if (t.equals("pace")) told.pace = v;
            return v >= 0;
        }

        long answer() {
            int items = 0;
            while (true) {
                if (!item()) return -1 - places.get(next);
                items++;
                if (tokens.get(next).isEmpty()) return items;
                if (!tokens.get(next).equals(";")) return -1 - places.get(next);
                next++;
            }
        }
    }
}
