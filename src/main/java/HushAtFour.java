/** A street of houses, the hush that goes through it every day, and the people there. */
public final class HushAtFour {
    private static final int BEYOND = -1000000001;
    private static final int FULL = -1000000002;
    private static final int KIND = -1000000003;
    private static final int NONE = -1000000004;
    private static final int STATE = -1000000005;
    private static final int MISSING = -1000000006;
    private static final int SIZE = -1000000007;
    private static final int FINDINGS = 7;

    private static final int HOUSES = 30;
    private static final int LAST_HOUSE = HOUSES - 1;
    private static final int LOUDEST = 20;
    private static final int DAY = 100;
    private static final int WIDEST = 10;
    private static final int QUICKEST = 5;
    private static final int LAST_MINUTE = 99999;
    private static final int MOST_PEOPLE = 8;
    private static final int MOST_HELD = 9999;
    private static final int FARTHEST_ON = 400;
    private static final int NO_HUSH = -1;

    private static final int WALKER = 0;
    private static final int PEDLAR = 1;
    private static final int CHILD = 2;
    private static final int DOG = 3;
    private static final int DOCTOR = 4;
    private static final int RUNNER = 5;
    private static final int KINDS = 6;

    private static final int TAPE_BYTES = 120;
    private static final int SHEETS = 4;
    private static final int SHEET_NUMBERS = 40;

    private final Town present;
    private final Town kept;
    /** Where all that is only tried out (ON, what is best, a text) goes on, so that no call makes objects. */
    private final Town trial;
    private final Tape tape;
    private final Sheet[] sheets;
    private final int[] findings;
    private boolean isKept;

    public HushAtFour() {
        present = new Town();
        kept = new Town();
        trial = new Town();
        tape = new Tape();
        sheets = new Sheet[SHEETS];
        for (int s = 0; s < SHEETS; s++) {
            sheets[s] = new Sheet();
        }
        findings = new int[FINDINGS];
        isKept = false;
    }

    // ---- the street

    public int noise(int house, int v) {
        if (!isHouse(house) || !isWithin(v, 0, LOUDEST)) {
            return found(BEYOND);
        }
        int before = present.noises[house];
        present.noises[house] = v;
        return before;
    }

    public int hush(int what, int v) {
        int before;
        if (what == 0 && isWithin(v, 0, DAY - 1)) {
            before = present.comesAt;
            present.comesAt = v;
        } else if (what == 1 && isWithin(v, 0, WIDEST)) {
            before = present.width;
            present.width = v;
        } else if (what == 2 && isWithin(v, 1, QUICKEST)) {
            before = present.speed;
            present.speed = v;
        } else {
            before = found(BEYOND);
        }
        return before;
    }

    public int house(int house, int what) {
        if (!isHouse(house)) {
            return found(BEYOND);
        }
        switch (what) {
            case 0:
                return present.noises[house];
            case 1:
                return present.takes(present.edge(), house) ? 1 : 0;
            case 2:
                return present.whoIsAt(house);
            default:
                return found(BEYOND);
        }
    }

    public int now(int what) {
        switch (what) {
            case 0:
                return present.minute;
            case 1:
                return present.minuteOfDay();
            case 2:
                return present.edge() == NO_HUSH ? 0 : 1 + present.edge();
            case 3:
                return present.loudness();
            case 4:
                return present.whoIsIn();
            case 5:
                return present.comesAt;
            case 6:
                return present.width;
            case 7:
                return present.speed;
            default:
                return found(BEYOND);
        }
    }

    // ---- people

    public int person(int kind, int house) {
        if (!isKind(kind) || !isHouse(house)) {
            return found(BEYOND);
        }
        if (present.people >= MOST_PEOPLE) {
            return found(FULL);
        }
        present.add(kind, house);
        return present.people - 1;
    }

    public int of(int person, int what) {
        if (!isPerson(person)) {
            return found(BEYOND);
        }
        switch (what) {
            case 0:
                return present.kinds[person];
            case 1:
                return present.places[person];
            case 2:
                return present.quiets[person];
            case 3:
                return present.catchings[person];
            case 4:
                return 100 + present.goes(person, present.edge());
            case 5:
                return present.talks(person, present.edge());
            case 6:
                return present.stepsOver(person) ? 1 : 0;
            case 7:
                return (present.wasIn >> person) & 1;
            default:
                return found(BEYOND);
        }
    }

    public int set(int person, int what, int v) {
        if (!isPerson(person)) {
            return found(BEYOND);
        }
        if (what == 1 && isHouse(v)) {
            return replace(present.places, person, v);
        }
        if (what == 2 && isWithin(v, 0, MOST_HELD)) {
            return replace(present.quiets, person, v);
        }
        if (what == 3 && isWithin(v, 0, MOST_HELD)) {
            return replace(present.catchings, person, v);
        }
        return found(BEYOND);
    }

    public int turn(int person, int kind) {
        if (!isPerson(person) || !isKind(kind)) {
            return found(BEYOND);
        }
        return replace(present.kinds, person, kind);
    }

    public int as(int person, int kind) {
        if (!isPerson(person) || !isKind(kind)) {
            return found(BEYOND);
        }
        if (!isOfKind(present.kinds[person], kind)) {
            return found(KIND);
        }
        return present.quiets[person];
    }

    // ---- minutes

    public int minutes(int n) {
        if (!isWithin(n, 1, 200)) {
            return found(BEYOND);
        }
        if (present.minute + n > LAST_MINUTE) {
            return found(STATE);
        }
        present.goOn(n);
        return present.whoIsIn();
    }

    public int on(int person, int n, int what) {
        if (!isPerson(person) || !isWithin(n, 0, FARTHEST_ON) || !isWithin(what, 0, 2)) {
            return found(BEYOND);
        }
        trial.becomeWithOne(present, person);
        trial.goOn(n);
        if (what == 0) {
            return trial.places[0];
        }
        return what == 1 ? trial.quiets[0] : trial.catchings[0];
    }

    public int heard(int n) {
        if (!isWithin(n, 0, FARTHEST_ON)) {
            return found(BEYOND);
        }
        tryOn(n);
        return trial.loudness();
    }

    public int reaches(int house) {
        if (!isHouse(house)) {
            return found(BEYOND);
        }
        trial.becomeEmpty(present);
        for (int n = 0; n <= FARTHEST_ON; n++) {
            if (trial.takes(trial.edge(), house)) {
                return n;
            }
            trial.goOn(1);
        }
        return found(NONE);
    }

    public int catches(int person) {
        if (!isPerson(person)) {
            return found(BEYOND);
        }
        trial.becomeWithOne(present, person);
        for (int n = 0; n <= FARTHEST_ON; n++) {
            if (trial.whoIsIn() != 0) {
                return n;
            }
            trial.goOn(1);
        }
        return found(NONE);
    }

    public int out() {
        trial.becomeEmpty(present);
        for (int n = 0; n <= FARTHEST_ON; n++) {
            if (trial.edge() == NO_HUSH) {
                return n;
            }
            trial.goOn(1);
        }
        return found(NONE);
    }

    // ---- what is best

    public int where(int person, int n) {
        if (!isPerson(person) || !isWithin(n, 1, 200)) {
            return found(BEYOND);
        }
        int best = 0;
        int most = -1;
        for (int house = 0; house < HOUSES; house++) {
            int quiet = quietOf(person, present.kinds[person], house, n);
            if (quiet > most) {
                most = quiet;
                best = house;
            }
        }
        return best;
    }

    public int kind(int person, int n) {
        if (!isPerson(person) || !isWithin(n, 1, 200)) {
            return found(BEYOND);
        }
        int best = 0;
        int most = -1;
        for (int kind = 0; kind < KINDS; kind++) {
            int quiet = quietOf(person, kind, present.places[person], n);
            if (quiet > most) {
                most = quiet;
                best = kind;
            }
        }
        return best;
    }

    public int wide(int n) {
        if (!isWithin(n, 1, 100)) {
            return found(BEYOND);
        }
        int caughtNow = present.caughtOfAll();
        for (int width = WIDEST; width >= 0; width--) {
            trial.become(present);
            trial.width = width;
            trial.goOn(n);
            if (trial.caughtOfAll() <= caughtNow) {
                return width;
            }
        }
        return found(NONE);
    }

    public int pace(int n) {
        if (!isWithin(n, 1, 100)) {
            return found(BEYOND);
        }
        int best = 1;
        int most = -1;
        for (int speed = 1; speed <= QUICKEST; speed++) {
            trial.become(present);
            trial.speed = speed;
            trial.goOn(n);
            int quiet = trial.quietOfAll();
            if (quiet > most) {
                most = quiet;
                best = speed;
            }
        }
        return best;
    }

    public int four(int n) {
        if (!isWithin(n, 0, 100)) {
            return found(BEYOND);
        }
        int best = 0;
        int least = 0;
        for (int comesAt = 0; comesAt < DAY; comesAt++) {
            trial.become(present);
            trial.comesAt = comesAt;
            trial.goOn(n);
            int loudness = trial.loudness();
            if (comesAt == 0 || loudness < least) {
                least = loudness;
                best = comesAt;
            }
        }
        return best;
    }

    public int still(int n) {
        if (!isWithin(n, 0, 100)) {
            return found(BEYOND);
        }
        // Nobody goes or talks by NOISE: HEARD is least without the house that gives most to it.
        trial.becomeEmpty(present);
        trial.goOn(n);
        int edge = trial.edge();
        int best = 0;
        int most = -1;
        for (int house = 0; house < HOUSES; house++) {
            int given = trial.takes(edge, house) ? 0 : trial.noises[house];
            if (given > most) {
                most = given;
                best = house;
            }
        }
        return best;
    }

    public int quietest(int n) {
        if (!isWithin(n, 0, FARTHEST_ON)) {
            return found(BEYOND);
        }
        if (present.people == 0) {
            return found(NONE);
        }
        tryOn(n);
        int best = 0;
        for (int p = 1; p < trial.people; p++) {
            if (trial.quiets[p] > trial.quiets[best]) {
                best = p;
            }
        }
        return best;
    }

    // ---- the text

    public int feed(int bytes, int n) {
        if (!isWithin(n, 1, 4)) {
            return found(BEYOND);
        }
        if (tape.length + n > TAPE_BYTES) {
            return found(FULL);
        }
        for (int i = n - 1; i >= 0; i--) {
            tape.add((bytes >> (8 * i)) & 255);
        }
        return tape.length;
    }

    public int wipe() {
        int before = tape.length;
        tape.length = 0;
        return before;
    }

    public int town() {
        trial.become(present);
        boolean isText = tape.tells(trial);
        tape.length = 0;
        if (!isText) {
            return -1 - tape.place;
        }
        present.become(trial);
        return tape.items;
    }

    // ---- sheets

    public int sheet(int s, int bits, int n) {
        if (!isSheet(s) || !isWidthOfNumbers(bits)) {
            return found(BEYOND);
        }
        if (n < 0) {
            return found(SIZE);
        }
        if (n > SHEET_NUMBERS) {
            return found(BEYOND);
        }
        sheets[s].begin(bits, bits == 0 ? 0 : n);
        return sheets[s].size;
    }

    public long write(int s, int i, long v) {
        if (!isSheet(s)) {
            return found(BEYOND);
        }
        if (sheets[s].isMissing()) {
            return found(MISSING);
        }
        if (!isWithin(i, 0, sheets[s].size - 1)) {
            return found(BEYOND);
        }
        long before = sheets[s].numbers[i];
        sheets[s].put(i, v);
        return before;
    }

    public int copy(int s, int from, int t, int to, int n) {
        if (!isSheet(s) || !isSheet(t)) {
            return found(BEYOND);
        }
        if (sheets[s].isMissing() || sheets[t].isMissing()) {
            return found(MISSING);
        }
        if (sheets[s].bits != sheets[t].bits) {
            return found(KIND);
        }
        if (!sheets[s].hasRow(from, n) || !sheets[t].hasRow(to, n)) {
            return found(BEYOND);
        }
        System.arraycopy(sheets[s].numbers, from, sheets[t].numbers, to, n);
        return n;
    }

    public int lays(int s) {
        if (!isSheet(s)) {
            return found(BEYOND);
        }
        if (sheets[s].isMissing()) {
            return found(MISSING);
        }
        int came = 0;
        for (int i = 0; i < sheets[s].size && i < HOUSES; i++) {
            long number = sheets[s].numbers[i];
            if (number >= 0 && number <= LOUDEST) {
                present.noises[i] = (int) number;
                came++;
            }
        }
        return came;
    }

    public int book(int s, int person) {
        int finding = findingOfBook(s, person);
        if (finding != 0) {
            return found(finding);
        }
        trial.becomeWithOne(present, person);
        for (int i = 0; i < sheets[s].size; i++) {
            sheets[s].put(i, trial.places[0]);
            trial.goOn(1);
        }
        return sheets[s].size;
    }

    public int read(int s, int person) {
        int finding = findingOfBook(s, person);
        if (finding != 0) {
            return found(finding);
        }
        int pairs = 0;
        for (int kind = 0; kind < KINDS; kind++) {
            for (int house = 0; house < HOUSES; house++) {
                tryOne(person, kind, house);
                pairs += goesAsWritten(sheets[s]) ? 1 : 0;
            }
        }
        return pairs;
    }

    // ---- images

    public int image() {
        kept.become(present);
        isKept = true;
        return 1;
    }

    public int undo() {
        if (!isKept) {
            return found(NONE);
        }
        present.become(kept);
        return present.people;
    }

    public int tear() {
        int before = isKept ? 1 : 0;
        isKept = false;
        return before;
    }

    public int count(int what) {
        switch (what) {
            case 0:
                return present.people;
            case 1:
                return tape.length;
            case 2:
                return present.noiseOfAll();
            case 3:
                return present.quietOfAll();
            default:
                return found(BEYOND);
        }
    }

    public int status(int which) {
        if (isWithin(which, 0, FINDINGS - 1)) {
            return findings[which];
        }
        return which == -1 ? sum(findings, FINDINGS) : found(BEYOND);
    }

    // ---- what the calls above share

    private int found(int finding) {
        int which = BEYOND - finding;
        if (isWithin(which, 0, FINDINGS - 1)) {
            findings[which]++;
        }
        return finding;
    }

    private boolean isPerson(int person) {
        return isWithin(person, 0, present.people - 1);
    }

    private void tryOn(int n) {
        trial.become(present);
        trial.goOn(n);
    }

    /** One alone is enough where only that one is asked for: nobody goes by where others are. */
    private void tryOne(int person, int kind, int house) {
        trial.becomeWithOne(present, person);
        trial.kinds[0] = kind;
        trial.places[0] = house;
    }

    private int quietOf(int person, int kind, int house, int n) {
        tryOne(person, kind, house);
        trial.goOn(n);
        return trial.quiets[0];
    }

    private boolean goesAsWritten(Sheet sheet) {
        for (int i = 0; i < sheet.size; i++) {
            if (sheet.numbers[i] != trial.places[0]) {
                return false;
            }
            trial.goOn(1);
        }
        return true;
    }

    private int findingOfBook(int s, int person) {
        if (!isSheet(s)) {
            return BEYOND;
        }
        if (sheets[s].isMissing()) {
            return MISSING;
        }
        return isPerson(person) ? 0 : BEYOND;
    }

    private static int replace(int[] row, int i, int v) {
        int before = row[i];
        row[i] = v;
        return before;
    }

    private static boolean isHouse(int house) {
        return isWithin(house, 0, LAST_HOUSE);
    }

    private static boolean isKind(int kind) {
        return isWithin(kind, 0, KINDS - 1);
    }

    private static boolean isSheet(int s) {
        return isWithin(s, 0, SHEETS - 1);
    }

    private static boolean isWidthOfNumbers(int bits) {
        return bits == 0 || bits == 8 || bits == 16 || bits == 64;
    }

    private static boolean isWithin(int v, int least, int most) {
        return v >= least && v <= most;
    }

    private static int held(int v, int least, int most) {
        return Math.max(least, Math.min(most, v));
    }

    private static int sum(int[] row, int n) {
        int all = 0;
        for (int i = 0; i < n; i++) {
            all += row[i];
        }
        return all;
    }

    private static boolean isOfKind(int kind, int above) {
        switch (kind) {
            case DOCTOR:
                return above == DOCTOR || above == PEDLAR || above == WALKER;
            case RUNNER:
                return above == RUNNER || above == CHILD || above == WALKER;
            default:
                return above == kind || above == WALKER;
        }
    }

    /** All that section 1 of the document tells, but THE TAPE. */
    private static final class Town {
        int minute;
        int comesAt;
        int width;
        int speed;
        final int[] noises;
        int people;
        final int[] kinds;
        final int[] places;
        final int[] quiets;
        final int[] catchings;
        /** Who was in it in the minute that went last, as a set. */
        int wasIn;

        Town() {
            minute = 0;
            comesAt = 30;
            width = 3;
            speed = 1;
            noises = new int[HOUSES];
            for (int house = 0; house < HOUSES; house++) {
                noises[house] = 4 * house % 7;
            }
            people = 0;
            kinds = new int[MOST_PEOPLE];
            places = new int[MOST_PEOPLE];
            quiets = new int[MOST_PEOPLE];
            catchings = new int[MOST_PEOPLE];
            wasIn = 0;
        }

        void become(Town other) {
            becomeEmpty(other);
            people = other.people;
            System.arraycopy(other.kinds, 0, kinds, 0, MOST_PEOPLE);
            System.arraycopy(other.places, 0, places, 0, MOST_PEOPLE);
            System.arraycopy(other.quiets, 0, quiets, 0, MOST_PEOPLE);
            System.arraycopy(other.catchings, 0, catchings, 0, MOST_PEOPLE);
            wasIn = other.wasIn;
        }

        void becomeWithOne(Town other, int person) {
            becomeEmpty(other);
            people = 1;
            kinds[0] = other.kinds[person];
            places[0] = other.places[person];
            quiets[0] = other.quiets[person];
            catchings[0] = other.catchings[person];
            wasIn = (other.wasIn >> person) & 1;
        }

        void becomeEmpty(Town other) {
            minute = other.minute;
            comesAt = other.comesAt;
            width = other.width;
            speed = other.speed;
            System.arraycopy(other.noises, 0, noises, 0, HOUSES);
            people = 0;
            wasIn = 0;
        }

        void add(int kind, int house) {
            if (people < MOST_PEOPLE) {
                kinds[people] = kind;
                places[people] = house;
                quiets[people] = 0;
                catchings[people] = 0;
                wasIn &= ~(1 << people);
                people++;
            }
        }

        int minuteOfDay() {
            return minute % DAY;
        }

        boolean isBell() {
            return minuteOfDay() % 5 == 0;
        }

        /** EDGE in this minute, which is never below 0 if there is a hush. */
        int edge() {
            int behind = minuteOfDay() - comesAt;
            int edge = speed * behind;
            boolean isThere = behind >= 0 && width > 0 && edge - width < LAST_HOUSE;
            return isThere ? edge : NO_HUSH;
        }

        boolean takes(int edge, int house) {
            return edge != NO_HUSH && house <= edge && house > edge - width;
        }

        int whoIsIn() {
            int edge = edge();
            int who = 0;
            for (int p = 0; p < people; p++) {
                who |= takes(edge, places[p]) ? 1 << p : 0;
            }
            return who;
        }

        int whoIsAt(int house) {
            int who = 0;
            for (int p = 0; p < people; p++) {
                who |= places[p] == house ? 1 << p : 0;
            }
            return who;
        }

        int goes(int p, int edge) {
            if (edge == NO_HUSH) {
                return kinds[p] == DOG ? -1 : 0;
            }
            int ahead = edge - places[p];
            switch (kinds[p]) {
                case PEDLAR:
                    return pedlarGoes(p, edge);
                case CHILD:
                    return childGoes(ahead);
                case DOG:
                    return held(ahead, -4, 4);
                case DOCTOR:
                    return isBell() ? 0 : pedlarGoes(p, edge);
                case RUNNER:
                    return childGoes(ahead) + (ahead == 0 ? 1 : 0);
                default:
                    return 0;
            }
        }

        int pedlarGoes(int p, int edge) {
            return takes(edge, places[p]) ? speed : 0;
        }

        int childGoes(int ahead) {
            return isWithin(ahead, -3, 0) ? 2 : 0;
        }

        int talks(int p, int edge) {
            int bell = kinds[p] == DOCTOR && isBell() ? 1 : 0;
            if (takes(edge, places[p])) {
                return bell;
            }
            switch (kinds[p]) {
                case PEDLAR:
                case DOCTOR:
                    return 5 + bell;
                case CHILD:
                    return 4;
                case DOG:
                    return 1;
                case RUNNER:
                    return 3;
                default:
                    return 2;
            }
        }

        boolean stepsOver(int p) {
            switch (kinds[p]) {
                case PEDLAR:
                case DOCTOR:
                    return false;
                case DOG:
                    return true;
                case RUNNER:
                    return catchings[p] >= 1;
                default:
                    return catchings[p] >= 3;
            }
        }

        int loudness() {
            int edge = edge();
            int all = 0;
            for (int house = 0; house < HOUSES; house++) {
                all += takes(edge, house) ? 0 : noises[house];
            }
            for (int p = 0; p < people; p++) {
                all += talks(p, edge);
            }
            return all;
        }

        void goOn(int n) {
            for (int i = 0; i < n; i++) {
                oneMinuteGoes();
            }
        }

        void oneMinuteGoes() {
            int edge = edge();
            int in = whoIsIn();
            for (int p = 0; p < people; p++) {
                if (((in >> p) & 1) == 1) {
                    isInIt(p);
                }
                places[p] = held(places[p] + goes(p, edge), 0, LAST_HOUSE);
            }
            wasIn = in;
            minute++;
        }

        void isInIt(int p) {
            quiets[p] = Math.min(MOST_HELD, quiets[p] + 1);
            if (((wasIn >> p) & 1) == 0 && !stepsOver(p)) {
                catchings[p] = Math.min(MOST_HELD, catchings[p] + 1);
            }
        }

        int noiseOfAll() {
            return sum(noises, HOUSES);
        }

        int quietOfAll() {
            return sum(quiets, people);
        }

        int caughtOfAll() {
            return sum(catchings, people);
        }
    }

    /** A row of numbers, held with their sign as Java holds those of so many bits. */
    private static final class Sheet {
        /** 0: it is MISSING. */
        int bits;
        int size;
        final long[] numbers;

        Sheet() {
            bits = 0;
            size = 0;
            numbers = new long[SHEET_NUMBERS];
        }

        boolean isMissing() {
            return bits == 0;
        }

        void begin(int newBits, int newSize) {
            bits = newBits;
            size = newSize;
            for (int i = 0; i < SHEET_NUMBERS; i++) {
                numbers[i] = 0;
            }
        }

        void put(int i, long v) {
            if (bits == 8) {
                numbers[i] = (byte) v;
            } else if (bits == 16) {
                numbers[i] = (short) v;
            } else {
                numbers[i] = v;
            }
        }

        boolean hasRow(int from, int n) {
            // Not from + n, which could wrap around.
            return from >= 0 && n >= 0 && n <= size && from <= size - n;
        }
    }

    /** THE TAPE, and the reading of it token by token. */
    private static final class Tape {
        private static final int WORD = 0;
        private static final int NUMBER = 1;
        private static final int SIGN = 2;
        private static final int END = 3;
        private static final int NO_TOKEN = 4;
        /** Above every number that may be, and far from where it would wrap around. */
        private static final int TOO_MUCH = 1000;

        final int[] bytes;
        int length;
        int items;
        /** Of the token that is looked at: its first byte, the one behind it, its sort, and its value if it is a number. */
        int place;
        int behind;
        int sort;
        int value;

        Tape() {
            bytes = new int[TAPE_BYTES];
            length = 0;
            items = 0;
            place = 0;
            behind = 0;
            sort = END;
            value = 0;
        }

        void add(int b) {
            if (length < TAPE_BYTES) {
                bytes[length] = b;
                length++;
            }
        }

        boolean isByte(int i, int least, int most) {
            return i >= 0 && i < length && bytes[i] >= least && bytes[i] <= most;
        }

        /** Whether it is a text, whose items come to a town at once; if not, place is the fault's, and the town is to be dropped. */
        boolean tells(Town told) {
            items = 0;
            behind = 0;
            do {
                step();
                if (!itemComes(told)) {
                    return false;
                }
                items++;
            } while (sort == SIGN && items <= TAPE_BYTES);
            return sort == END;
        }

        boolean itemComes(Town told) {
            if (sort != WORD) {
                return false;
            }
            for (int kind = 0; kind < KINDS; kind++) {
                if (isWord(nameOf(kind))) {
                    return personComes(told, kind);
                }
            }
            if (isWord("house")) {
                return noiseComes(told);
            }
            return hushComes(told);
        }

        boolean personComes(Town told, int kind) {
            if (told.people >= MOST_PEOPLE) {
                return false;
            }
            step();
            int house = 0;
            if (isWord("at")) {
                step();
                if (!isNumber(0, LAST_HOUSE)) {
                    return false;
                }
                house = value;
                step();
            }
            told.add(kind, house);
            return true;
        }

        boolean noiseComes(Town told) {
            step();
            if (!isNumber(0, LAST_HOUSE)) {
                return false;
            }
            int house = value;
            step();
            if (!isNumber(0, LOUDEST)) {
                return false;
            }
            told.noises[house] = value;
            step();
            return true;
        }

        boolean hushComes(Town told) {
            if (isWord("four")) {
                step();
                if (!isNumber(0, DAY - 1)) {
                    return false;
                }
                told.comesAt = value;
            } else if (isWord("wide")) {
                step();
                if (!isNumber(0, WIDEST)) {
                    return false;
                }
                told.width = value;
            } else if (isWord("pace")) {
                step();
                if (!isNumber(1, QUICKEST)) {
                    return false;
                }
                told.speed = value;
            } else {
                return false;
            }
            step();
            return true;
        }

        void step() {
            place = endOfRun(behind, ' ', ' ');
            behind = place + 1;
            if (place >= length) {
                sort = END;
                behind = place;
            } else if (isByte(place, 'a', 'z')) {
                sort = WORD;
                behind = endOfRun(place, 'a', 'z');
            } else if (isByte(place, '0', '9')) {
                sort = NUMBER;
                behind = endOfRun(place, '0', '9');
                value = valueOfNumber();
            } else {
                sort = isByte(place, ';', ';') ? SIGN : NO_TOKEN;
            }
        }

        int endOfRun(int from, int least, int most) {
            int i = from;
            while (i < length && isByte(i, least, most)) {
                i++;
            }
            return i;
        }

        int valueOfNumber() {
            int v = 0;
            for (int i = place; i < behind && i < length; i++) {
                v = Math.min(TOO_MUCH, 10 * v + bytes[i] - '0');
            }
            return v;
        }

        boolean isNumber(int least, int most) {
            return sort == NUMBER && isWithin(value, least, most);
        }

        boolean isWord(String word) {
            if (sort != WORD || behind - place != word.length()) {
                return false;
            }
            for (int i = 0; i < word.length(); i++) {
                if (!isByte(place + i, word.charAt(i), word.charAt(i))) {
                    return false;
                }
            }
            return true;
        }

        static String nameOf(int kind) {
            switch (kind) {
                case PEDLAR:
                    return "pedlar";
                case CHILD:
                    return "child";
                case DOG:
                    return "dog";
                case DOCTOR:
                    return "doctor";
                case RUNNER:
                    return "runner";
                default:
                    return "walker";
            }
        }
    }
}
