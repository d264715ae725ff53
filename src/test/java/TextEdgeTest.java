/** Promises 24 to 26, and THE TEXT of a TOWN, at their bounds. */
public final class TextEdgeTest {
    private static final Check check = new Check("TextEdgeTest");
    private static final Edge edge = new Edge(check);

    public static void main(String[] args) {
        feedOf1To4();
        feedTheHighestFirst();
        feedUpTo120();
        feedIsBeyondBeforeItIsFull();
        wipes();
        townOfNothing();
        townOf120Bytes();
        townEmptiesTheTape();
        numbersFromEndToEnd();
        numbersOfManyDigits();
        namesAndOtherWords();
        wordsAsLongAsCanBe();
        bytesThatBeginNoToken();
        blanksMayStandBetween();
        itEndsTooEarly();
        tokensThatCantStandThere();
        perhapsAt();
        theNinth();
        aFaultChangesNothing();
        theFirstFault();
        check.end();
    }

    private static HushAtFour fed(int bytes) {
        HushAtFour x = Edge.full();
        x.wipe();
        for (int i = 0; i + 4 <= bytes; i += 4) {
            x.feed(-1, 4);
        }
        if (bytes % 4 != 0) {
            x.feed(-1, bytes % 4);
        }
        return x;
    }

    /** "THE TAPE gets the n lowest bytes of a number behind it .. (n 1 to 4): how many it has. BEYOND: n." */
    private static void feedOf1To4() {
        edge.range("feed", Edge::full, (x, v) -> x.feed(-1, v), Edge.from(1, 4), 17, 20);
        edge.range("feed to none", HushAtFour::new, (x, v) -> x.feed(0, v), Edge.from(1, 4), 1, 4);
        for (int bytes : new int[] {0, 1, -1, Integer.MIN_VALUE, Integer.MAX_VALUE}) {
            edge.takes("feed of " + bytes, Edge::full, x -> x.feed(bytes, 4), 20);
        }
    }

    /** ".. the highest of these first" */
    private static void feedTheHighestFirst() {
        String[] texts = {"4", "e4", "ce4", "ace4"};
        for (int n = 1; n <= 4; n++) {
            HushAtFour x = new HushAtFour();
            Check.feed(x, "pace4".substring(0, 5 - n));
            check.due("feed of " + n, x.feed(0x61636534, n), 5);
            check.due("town with " + texts[n - 1], x.town(), 1);
            check.due("PACE", x.now(7), 4);
        }
    }

    /** "THE TAPE (bytes, at most 120)", "FULL." */
    private static void feedUpTo120() {
        for (int n = 1; n <= 4; n++) {
            int more = n;
            edge.takes("feed of " + n + " to 120", () -> fed(120 - more), x -> x.feed(0, more), 120);
            edge.refuses("feed of " + n + " to 121", () -> fed(121 - more), x -> x.feed(0, more), Check.FULL);
            edge.refuses("feed of " + n + " at 120", () -> fed(120), x -> x.feed(0, more), Check.FULL);
        }
        HushAtFour x = fed(118);
        check.due("feed of 3 at 118", x.feed(0, 3), Check.FULL);
        check.due("feed of 2 at 118", x.feed(0, 2), 120);
    }

    /** "BEYOND: n. FULL." in this order. */
    private static void feedIsBeyondBeforeItIsFull() {
        edge.beyond("feed at 120", () -> fed(120), (x, v) -> x.feed(0, v), Edge.from(1, 4));
    }

    /** "THE TAPE is empty: how many it had." */
    private static void wipes() {
        edge.takes("wipe() of none", HushAtFour::new, x -> x.wipe(), 0);
        edge.takes("wipe() of one", () -> fed(1), x -> x.wipe(), 1);
        edge.takes("wipe() of all", () -> fed(120), x -> x.wipe(), 120);
        HushAtFour x = fed(120);
        x.wipe();
        check.due("count(1)", x.count(1), 0);
        check.due("wipe() again", x.wipe(), 0);
        check.due("feed", x.feed(0, 4), 4);
    }

    private static void comes(String text, int items) {
        HushAtFour x = new HushAtFour();
        check.due("town of '" + text + "'", Check.town(x, text), items);
        check.due("bytes behind it", x.count(1), 0);
        check.due("findings behind it", x.status(-1), 0);
    }

    /** The fault is there, and nothing changes but that THE TAPE is empty, which is no finding. */
    private static void fault(String text, int place) {
        HushAtFour x = new HushAtFour();
        HushAtFour twin = new HushAtFour();
        check.due("town of '" + text + "'", Check.town(x, text), -1 - place);
        check.due("findings behind '" + text + "'", x.status(-1), 0);
        check.same("all behind '" + text + "'", Edge.all(x), Edge.all(twin));
    }

    private static void townOfNothing() {
        fault("", 0);
        fault(" ", 1);
        fault(" ".repeat(120), 120);
    }

    private static void townOf120Bytes() {
        String twenty = "pace5;".repeat(19) + "pace2";
        comes(twenty, 20);
        comes(twenty + " ", 20);
        fault(twenty + ";", 120);
        fault(twenty + "!", 119);
        fault(twenty + "0", 118);
        fault("pace5;".repeat(20), 120);
        fault(";".repeat(120), 0);
        fault("a".repeat(120), 0);
        comes("wide " + "0".repeat(114) + "7", 1);
        comes(" ".repeat(115) + "pace1", 1);
        fault(" ".repeat(114) + "pace 0", 119);
        fault(" ".repeat(116) + "pace", 120);
    }

    /** ".. come to what there is, and empty then: how many ITEMS." */
    private static void townEmptiesTheTape() {
        HushAtFour x = Edge.full();
        check.due("town()", x.town(), 2);
        check.due("bytes", x.count(1), 0);
        check.due("PACE", x.now(7), 4);
        check.due("NOISE of house 3", x.house(3, 0), 9);
        check.due("NOISE of house 4", x.house(4, 0), 19);
        check.due("MINUTE", x.now(0), 136);
        check.due("PEOPLE", x.count(0), 8);
        check.due("town() of nothing", x.town(), -1);
    }

    /** "at and a NUMBER (a house) ..; house, a NUMBER (0 to 29), a NUMBER (NOISE, 0 to 20); four ..; wide ..; pace .." */
    private static void numbersFromEndToEnd() {
        takesFrom("dog at ", 0, 29, "", x -> x.of(0, 1));
        takesFrom("house 3 ", 0, 20, "", x -> x.house(3, 0));
        takesFrom("four ", 0, 99, "", x -> x.now(5));
        takesFrom("wide ", 0, 10, "", x -> x.now(6));
        takesFrom("pace ", 1, 5, "", x -> x.now(7));
        takesFrom("house ", 0, 29, " 17", x -> x.house(0, 0) == 17 ? 0 : x.house(29, 0) == 17 ? 29 : -1);
    }

    private static void takesFrom(String ahead, int least, int most, String behind, Edge.Call told) {
        for (int v : new int[] {least, most}) {
            HushAtFour x = new HushAtFour();
            check.due(ahead + v + behind, Check.town(x, ahead + v + behind), 1);
            check.due("what came of " + ahead + v + behind, told.on(x), v);
        }
        fault(ahead + (most + 1) + behind, ahead.length());
        fault(ahead + "999" + behind, ahead.length());
        fault(ahead + "1000" + behind, ahead.length());
        fault(ahead + "-1" + behind, ahead.length());
        if (least > 0) {
            fault(ahead + (least - 1) + behind, ahead.length());
        }
    }

    /** "NUMBERS (digits, 999 at most)": one that is above is at fault as a whole, and does not wrap around. */
    private static void numbersOfManyDigits() {
        for (String digits : new String[] {"1000", "1003", "65539", "4294967299", "18446744073709551619",
                "340282366920938463463374607431768211459", "1" + "0".repeat(60) + "3"}) {
            fault("wide " + digits, 5);
            fault("pace " + digits, 5);
            fault("dog at " + digits, 7);
            fault("house " + digits + " 3", 6);
            fault("house 3 " + digits, 8);
        }
        comes("wide 007", 1);
        comes("dog at 000000029", 1);
        fault("dog at 000000030", 7);
    }

    /** "the name of a KIND (walker pedlar child dog doctor runner)", "another WORD": one letter of it is enough. */
    private static void namesAndOtherWords() {
        String[] names = {"walker", "pedlar", "child", "dog", "doctor", "runner"};
        HushAtFour x = new HushAtFour();
        for (int kind = 0; kind < 6; kind++) {
            check.due(names[kind], Check.town(x, names[kind]), 1);
            check.due("KIND of the " + names[kind], x.of(kind, 0), kind);
        }
        for (String text : new String[] {"walker", "pedlar", "child", "dog", "doctor", "runner", "house 3 4", "four 3",
                "wide 3", "pace 3"}) {
            for (int i = 0; i < text.length() && text.charAt(i) != ' '; i++) {
                fault(otherAt(text, i), 0);
            }
        }
        fault(otherAt("dog at 3", 4), 4);
        fault(otherAt("dog at 3", 5), 4);
    }

    private static String otherAt(String text, int i) {
        char other = text.charAt(i) == 'z' ? 'a' : (char) (text.charAt(i) + 1);
        return text.substring(0, i) + other + text.substring(i + 1);
    }

    /** "TOKENS, each as long as can be: WORDS (letters a to z), NUMBERS (digits ..), SIGN ;" */
    private static void wordsAsLongAsCanBe() {
        for (String name : new String[] {"walker", "pedlar", "child", "dog", "doctor", "runner"}) {
            comes(name, 1);
            comes(name + " at9", 1);
            fault(name + "s", 0);
            fault("a" + name, 0);
            fault(name.substring(1), 0);
            fault(name.substring(0, name.length() - 1), 0);
            fault(name + "at 9", 0);
            fault(name + name, 0);
        }
        for (String word : new String[] {"house", "four", "wide", "pace"}) {
            comes(word + "3" + (word.equals("house") ? " 3" : ""), 1);
            fault(word + "s 3", 0);
            fault(word.substring(0, word.length() - 1) + " 3", 0);
        }
        comes("dog at1;dog;pace4;wide10", 4);
        fault("wide 1 0", 7);
        fault("four 9 9", 7);
        fault("wide 110", 5);
        fault("house 12", 8);
        comes("house 1 2", 1);
        fault("wide 5dog", 6);
        fault("dog at9dog", 7);
    }

    /** "a byte that begins no TOKEN" */
    private static void bytesThatBeginNoToken() {
        for (int b = 0; b <= 255; b++) {
            boolean isLetter = b >= 'a' && b <= 'z';
            boolean isDigit = b >= '0' && b <= '9';
            String sign = String.valueOf((char) b);
            if (b == ' ') {
                comes(sign + "dog" + sign, 1);
            } else if (b == ';') {
                fault(sign, 0);
                fault("dog" + sign, 4);
                fault("dog ;" + sign, 5);
            } else if (isLetter) {
                fault("dog" + sign, 0);
                fault("dog " + sign, 4);
            } else if (isDigit) {
                fault(sign, 0);
                fault("dog" + sign, 3);
            } else {
                fault(sign, 0);
                fault("dog" + sign, 3);
                fault("dog " + sign + "at 3", 4);
                fault("wide 3" + sign, 6);
                fault("dog;" + sign + "dog", 4);
            }
        }
    }

    /** "blanks may stand between" */
    private static void blanksMayStandBetween() {
        comes("   dog", 1);
        comes("dog   ", 1);
        comes("  dog  at  3  ;  house  3  4  ;  wide  3  ", 3);
        comes("dog at3;house3 4;wide3", 3);
        fault("do g", 0);
        fault("house 3 1 9", 10);
    }

    /** "or how many bytes there are if it ends too early." */
    private static void itEndsTooEarly() {
        for (String text : new String[] {"dog at", "house", "house 3", "four", "wide", "pace", "dog;", "dog at 3;",
                "four 3 ; pace", "house 3 4;house 29"}) {
            fault(text, text.length());
            fault(text + " ", text.length() + 1);
            fault(text + "   ", text.length() + 3);
            fault("  " + text, text.length() + 2);
        }
    }

    /** "the place (from 0) of the first byte of the first TOKEN that can't stand there" */
    private static void tokensThatCantStandThere() {
        fault(";", 0);
        fault("3", 0);
        fault("at", 0);
        fault("hush", 0);
        fault("dog;;dog", 4);
        fault("dog ; ; dog", 6);
        fault("dog dog", 4);
        fault("dog 3", 4);
        fault("dog four 3", 4);
        fault("dog;at 3", 4);
        fault("house;", 5);
        fault("house dog", 6);
        fault("house 3;", 7);
        fault("house 3 dog", 8);
        fault("house 3 at", 8);
        fault("house 3 4 5", 10);
        fault("house 3 4 dog", 10);
        fault("house at 3 4", 6);
        fault("four;", 4);
        fault("four four", 5);
        fault("four 3 4", 7);
        fault("wide at 3", 5);
        fault("wide 3 at", 7);
        fault("pace ;", 5);
        fault("pace 3 pace 3", 7);
    }

    /** "the name of a KIND .., perhaps at and a NUMBER (a house): one more" */
    private static void perhapsAt() {
        comes("dog", 1);
        comes("dog at 0", 1);
        comes("dog at 29", 1);
        fault("dog at", 6);
        fault("dog at;", 6);
        fault("dog at at 3", 7);
        fault("dog at dog", 7);
        fault("dog at 3 at 3", 9);
        fault("dog at 3 3", 9);
        HushAtFour x = new HushAtFour();
        x.person(1, 7);
        x.minutes(31);
        check.due("two more", Check.town(x, "runner;walker at 1"), 2);
        check.due("one that stays", x.of(0, 1), 7);
        check.due("one without at", x.of(1, 1), 0);
        check.due("its KIND", x.of(1, 0), 5);
        check.due("one at 1", x.of(2, 1), 1);
        for (int p = 1; p <= 2; p++) {
            check.due("QUIET of one that came", x.of(p, 2), 0);
            check.due("CAUGHT of one that came", x.of(p, 3), 0);
            check.due("one that came since WAS not", x.of(p, 7), 0);
        }
        x.minutes(1);
        check.due("it is caught", x.of(1, 3), 1);
        anotherInThePlaceOfOneThatWas();
    }

    /** WAS of one that undo() took away must not stay for the next who comes with that number. */
    private static void anotherInThePlaceOfOneThatWas() {
        HushAtFour x = new HushAtFour();
        x.hush(0, 0);
        x.image();
        x.person(1, 0);
        x.minutes(1);
        check.due("it WAS in it", x.of(0, 7), 1);
        x.undo();
        Check.town(x, "pedlar");
        check.due("the next WAS not", x.of(0, 7), 0);
        x.minutes(1);
        check.due("the next is CAUGHT", x.of(0, 3), 1);
        x.undo();
        x.person(1, 0);
        check.due("nor WAS one by person()", x.of(0, 7), 0);
    }

    /** "the name of a KIND for a 9th: its own" */
    private static void theNinth() {
        for (int there = 0; there <= 8; there++) {
            HushAtFour x = Edge.withPeople(there);
            x.wipe();
            int may = 8 - there;
            check.due("so many that it is a 9th", Check.town(x, " dog;".repeat(may) + " dog"), -1 - (5 * may + 1));
            check.due("nobody came", x.count(0), there);
            if (may > 0) {
                check.due("up to the 8th", Check.town(x, " dog;".repeat(may - 1) + " dog"), may);
                check.due("all came", x.count(0), 8);
                check.due("the last of them", x.of(7, 0), 3);
            }
        }
        HushAtFour x = Edge.full();
        x.wipe();
        check.due("a 9th at no house", Check.town(x, "dog at 30"), -1);
        check.due("a 9th behind another item", Check.town(x, "wide 9; dog"), -1 - 8);
        check.due("WIDE stays", x.now(6), 5);
        check.due("a fault ahead of a 9th", Check.town(x, "wide 11; dog"), -1 - 5);
        check.due("no KIND for a 9th", Check.town(x, "dogs"), -1);
        check.due("other items", Check.town(x, "wide 9"), 1);
    }

    /** "With a FAULT: -1 less its place (nothing changes but that THE TAPE is empty; no finding)." */
    private static void aFaultChangesNothing() {
        String good = "dog at 4;house 2 3;four 9;wide 9;pace 3;";
        for (String bad : new String[] {"", "cat", "dog at 30", "house 3 21", "pace 0", ";", "!"}) {
            HushAtFour x = Edge.some();
            HushAtFour twin = Edge.some();
            x.wipe();
            twin.wipe();
            check.due("a fault behind much", Check.town(x, good + bad) < 0 ? 1 : 0, 1);
            for (int which = -1; which <= 6; which++) {
                check.due("status(" + which + ")", x.status(which), twin.status(which));
            }
            check.same("all behind '" + bad + "'", Edge.all(x), Edge.all(twin));
        }
    }

    private static void theFirstFault() {
        fault("dog at 30; house 30 1", 7);
        fault("house 30 21", 6);
        fault("house 29 21", 9);
        fault("wide 3; pace 6; four 100", 13);
        fault("cat at !", 0);
        fault("dog ! cat", 4);
        fault("wide 11!", 5);
    }
}
