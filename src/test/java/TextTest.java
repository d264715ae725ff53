/** Promises 24 to 26: feed, wipe, town. */
public final class TextTest {
    private static final Check check = new Check("TextTest");

    public static void main(String[] args) {
        feedsAndWipes();
        itemsCome();
        kindsCome();
        tokens();
        faults();
        aFaultChangesNothing();
        aNinth();
        check.end();
    }

    private static void feedsAndWipes() {
        HushAtFour x = new HushAtFour();
        check.refused("feed(0, 0)", x, () -> x.feed(0, 0), Check.BEYOND);
        check.refused("feed(0, 5)", x, () -> x.feed(0, 5), Check.BEYOND);
        check.refused("feed(0, -1)", x, () -> x.feed(0, -1), Check.BEYOND);
        check.due("feed 'd'", x.feed(0x7F7F7F64, 1), 1);
        check.due("feed 'og'", x.feed(0x7F7F6F67, 2), 3);
        check.due("feed ' at'", x.feed(0x7F206174, 3), 6);
        check.due("feed ' 17;'", x.feed(0x2031373B, 4), 10);
        check.due("feed 'wide'", x.feed(0x77696465, 4), 14);
        check.due("feed '9'", x.feed('9', 1), 15);
        check.due("count(1)", x.count(1), 15);
        check.due("town()", x.town(), 2);
        check.due("count(1)", x.count(1), 0);
        check.due("house of the dog", x.of(0, 1), 17);
        check.due("WIDE", x.now(6), 9);
        for (int i = 1; i <= 29; i++) {
            x.feed(-1, 4);
        }
        check.due("feed(-1, 3)", x.feed(-1, 3), 119);
        check.refused("feed(0, 2) at 119", x, () -> x.feed(0, 2), Check.FULL);
        check.refused("feed(0, 5) at 119", x, () -> x.feed(0, 5), Check.BEYOND);
        check.due("feed(0, 1)", x.feed(0, 1), 120);
        check.refused("feed(0, 1) at 120", x, () -> x.feed(0, 1), Check.FULL);
        check.due("wipe()", x.wipe(), 120);
        check.due("wipe() again", x.wipe(), 0);
        check.due("count(1)", x.count(1), 0);
    }

    private static void itemsCome() {
        HushAtFour x = new HushAtFour();
        check.due("town", Check.town(x, "house 0 20;house 29 0 ; four 99; wide 0;pace 5; runner at 29"), 6);
        check.due("house 0", x.house(0, 0), 20);
        check.due("house 29", x.house(29, 0), 0);
        check.due("FOUR", x.now(5), 99);
        check.due("WIDE", x.now(6), 0);
        check.due("PACE", x.now(7), 5);
        check.due("KIND", x.of(0, 0), 5);
        check.due("house", x.of(0, 1), 29);
        check.due("the later item stands", Check.town(x, "four 1;four 2;house 3 4;house 3 5"), 4);
        check.due("FOUR", x.now(5), 2);
        check.due("house 3", x.house(3, 0), 5);
        check.due("least of all", Check.town(x, "four 0;wide 10;pace 1;dog at 0"), 4);
        check.due("FOUR", x.now(5), 0);
        check.due("WIDE", x.now(6), 10);
        check.due("PACE", x.now(7), 1);
        check.due("MINUTE", x.now(0), 0);
        check.due("no finding", x.status(-1), 0);
    }

    private static void kindsCome() {
        HushAtFour x = new HushAtFour();
        String[] names = {"walker", "pedlar", "child", "dog", "doctor", "runner"};
        for (int kind = 0; kind < 6; kind++) {
            check.due(names[kind], Check.town(x, names[kind]), 1);
            check.due("KIND of the " + names[kind], x.of(kind, 0), kind);
            check.due("house of the " + names[kind], x.of(kind, 1), 0);
            check.due("QUIET of the " + names[kind], x.of(kind, 2), 0);
            check.due("WAS of the " + names[kind], x.of(kind, 7), 0);
        }
    }

    private static void tokens() {
        HushAtFour x = new HushAtFour();
        check.due("without blanks", Check.town(x, "dog at7;house3 4;four5"), 3);
        check.due("house of the dog", x.of(0, 1), 7);
        check.due("with many", Check.town(x, "   dog   at   8   ;   pace   2   "), 2);
        check.due("house of the dog", x.of(1, 1), 8);
        check.due("with zeros ahead", Check.town(x, "wide 0000007"), 1);
        check.due("WIDE", x.now(6), 7);
        StringBuilder longest = new StringBuilder("pace 4");
        while (longest.length() + 7 <= 120) {
            longest.append(";pace 3");
        }
        while (longest.length() < 120) {
            longest.append(' ');
        }
        check.due("120 bytes", Check.town(x, longest.toString()), 17);
        check.due("PACE", x.now(7), 3);
    }

    private static void fault(String text, int place) {
        HushAtFour x = new HushAtFour();
        check.due("town of '" + text + "'", Check.town(x, text), -1 - place);
        check.due("status(-1) after '" + text + "'", x.status(-1), 0);
        check.due("count(1) after '" + text + "'", x.count(1), 0);
    }

    private static void faults() {
        fault("", 0);
        fault("   ", 3);
        fault(";", 0);
        fault("dog;", 4);
        fault("dog;  ", 6);
        fault("dog;;dog", 4);
        fault("dog dog", 4);
        fault("dog 5", 4);
        fault("dog at", 6);
        fault("dog at ", 7);
        fault("dog at 30", 7);
        fault("dog at 1000", 7);
        fault("dog at 4294967296", 7);
        fault("dog at at", 7);
        fault("dog at ;", 7);
        fault("dog at 5 5", 9);
        fault("dogat 5", 0);
        fault("dogs", 0);
        fault("do", 0);
        fault("fog", 0);
        fault("mouse 1 2", 0);
        fault("pour 3", 0);
        fault("dog it 3", 4);
        fault("at 5", 0);
        fault("Dog", 0);
        fault("dog At 5", 4);
        fault("dogAt", 3);
        fault("dog\tat 5", 3);
        fault("dog.", 3);
        fault("\u00ff", 0);
        fault("7", 0);
        fault("house", 5);
        fault("house 30 1", 6);
        fault("house 29", 8);
        fault("house 29 ", 9);
        fault("house 29 21", 9);
        fault("house 29 dog", 9);
        fault("house 29;", 8);
        fault("house 1 2 3", 10);
        fault("house dog", 6);
        fault("four", 4);
        fault("four 100", 5);
        fault("four 99 1", 8);
        fault("wide 11", 5);
        fault("wide", 4);
        fault("pace 0", 5);
        fault("pace 6", 5);
        fault("pace", 4);
        fault("pace ;", 5);
        fault("pace 5:", 6);
        fault("wide 3/", 6);
        fault("wide `", 5);
        fault("wide {", 5);
        fault("hush 3", 0);
    }

    private static void aFaultChangesNothing() {
        HushAtFour x = new HushAtFour();
        x.person(2, 3);
        x.minutes(33);
        String before = Check.look(x);
        int place = "dog at 4;house 2 3;four 9;wide 9;pace 3;".length();
        check.due("a fault at the end", Check.town(x, "dog at 4;house 2 3;four 9;wide 9;pace 3;"), -1 - place);
        check.same("all, behind a fault", Check.look(x), before);
    }

    private static void aNinth() {
        HushAtFour x = new HushAtFour();
        for (int p = 0; p < 6; p++) {
            x.person(0, 0);
        }
        check.due("a 9th in the text", Check.town(x, "dog;dog at 3; dog at 99"), -1 - 14);
        check.due("count(0)", x.count(0), 6);
        check.due("an 8th", Check.town(x, "dog;dog at 3"), 2);
        check.due("a 9th", Check.town(x, " dog"), -1 - 1);
        check.due("other items", Check.town(x, "pace 2"), 1);
        check.due("no finding", x.status(-1), 0);
    }
}
