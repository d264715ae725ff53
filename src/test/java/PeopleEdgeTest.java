/** Promises 6 to 10 at their bounds. */
public final class PeopleEdgeTest {
    private static final Check check = new Check("PeopleEdgeTest");
    private static final Edge edge = new Edge(check);

    public static void main(String[] args) {
        personIsOfAKindAtAHouse();
        personsAreAtMost8();
        personIsBeyondBeforeItIsFull();
        ofSomebody();
        ofNobody();
        setOfSomebody();
        setHouse();
        setQuietAndCaught();
        turns();
        as();
        asIsBeyondBeforeItIsKind();
        check.end();
    }

    /** "One more, AT a house: the number. BEYOND: kind, house." */
    private static void personIsOfAKindAtAHouse() {
        edge.range("person of kind", Edge::some, (x, v) -> x.person(v, 7), Edge.from(0, 5), 3, 3);
        edge.range("person at house", Edge::some, (x, v) -> x.person(2, v), Edge.from(0, 29), 3, 3);
        HushAtFour x = new HushAtFour();
        x.person(5, 29);
        x.person(0, 0);
        check.due("KIND 5", x.of(0, 0), 5);
        check.due("house 29", x.of(0, 1), 29);
        check.due("KIND 0", x.of(1, 0), 0);
        check.due("house 0", x.of(1, 1), 0);
    }

    /** "PEOPLE 0, 1, .. (at most 8)" "FULL." */
    private static void personsAreAtMost8() {
        edge.takes("a first", HushAtFour::new, x -> x.person(0, 0), 0);
        edge.takes("an 8th", () -> Edge.withPeople(7), x -> x.person(0, 0), 7);
        edge.refuses("a 9th", Edge::full, x -> x.person(0, 0), Check.FULL);
        edge.refuses("a 9th of the last kind at the last house", Edge::full, x -> x.person(5, 29), Check.FULL);
    }

    /** "BEYOND: kind, house. FULL." in this order. */
    private static void personIsBeyondBeforeItIsFull() {
        for (int kind : new int[] {-1, 6}) {
            edge.refuses("a 9th of kind " + kind, Edge::full, x -> x.person(kind, 0), Check.BEYOND);
        }
        for (int house : new int[] {-1, 30}) {
            edge.refuses("a 9th at house " + house, Edge::full, x -> x.person(0, house), Check.BEYOND);
        }
    }

    /** "Of one: what 0 KIND, .. 7 .. BEYOND." */
    private static void ofSomebody() {
        edge.range("of", Edge::full, (x, v) -> x.of(v, 2), Edge.from(0, 7), 100, 107);
        edge.range("of the last of three", Edge::some, (x, v) -> x.of(v, 2), Edge.from(0, 2), 100, 102);
        edge.range("of what", Edge::full, (x, v) -> x.of(1, v), Edge.from(0, 7), 1, 0);
    }

    private static void ofNobody() {
        for (int what = 0; what <= 7; what++) {
            int w = what;
            edge.refuses("of(0, " + w + ") of nobody", HushAtFour::new, x -> x.of(0, w), Check.BEYOND);
        }
    }

    /** "House (what 1), QUIET (2), CAUGHT (3) of one becomes v: what it was. BEYOND." */
    private static void setOfSomebody() {
        edge.range("set of", Edge::full, (x, v) -> x.set(v, 2, 3), Edge.from(0, 7), 100, 107);
        edge.range("set what", Edge::full, (x, v) -> x.set(2, v, 3), Edge.from(1, 3), 10, 2);
        edge.refuses("set of nobody", HushAtFour::new, x -> x.set(0, 1, 0), Check.BEYOND);
    }

    private static void setHouse() {
        edge.range("set house", Edge::full, (x, v) -> x.set(7, 1, v), Edge.from(0, 29), 15, 15);
        HushAtFour x = Edge.full();
        x.set(7, 1, 29);
        check.due("house 29", x.of(7, 1), 29);
        check.due("it was", x.set(7, 1, 0), 29);
        check.due("house 0", x.of(7, 1), 0);
        check.due("house of the one before", x.of(6, 1), 14);
    }

    /** "QUIET; 0 at first, held to 9999", "CAUGHT (0 at first, held to 9999)" */
    private static void setQuietAndCaught() {
        edge.range("set QUIET", Edge::full, (x, v) -> x.set(7, 2, v), Edge.from(0, 9999), 107, 107);
        edge.range("set CAUGHT", Edge::full, (x, v) -> x.set(7, 3, v), Edge.from(0, 9999), 3, 3);
        HushAtFour x = Edge.full();
        for (int what = 2; what <= 3; what++) {
            x.set(7, what, 9999);
            check.due("of(7, " + what + ")", x.of(7, what), 9999);
            check.due("it was", x.set(7, what, 0), 9999);
            check.due("of(7, " + what + ")", x.of(7, what), 0);
        }
    }

    /** "One becomes one of another KIND: what it was. BEYOND." */
    private static void turns() {
        edge.range("turn of", Edge::full, (x, v) -> x.turn(v, 5), Edge.from(0, 7), 0, 2);
        edge.range("turn to", Edge::full, (x, v) -> x.turn(3, v), Edge.from(0, 5), 3, 3);
        edge.refuses("turn of nobody", HushAtFour::new, x -> x.turn(0, 0), Check.BEYOND);
        HushAtFour x = Edge.full();
        x.turn(3, 5);
        check.due("KIND 5", x.of(3, 0), 5);
        check.due("it was", x.turn(3, 0), 5);
        check.due("KIND 0", x.of(3, 0), 0);
    }

    /** "One as one of a kind: QUIET. BEYOND: no such one, kind. KIND: it isn't of that kind, nor of one under it." */
    private static void as() {
        edge.range("as, of", Edge::full, (x, v) -> x.as(v, 0), Edge.from(0, 7), 100, 107);
        edge.range("runner as", Edge::full, (x, v) -> x.as(5, v), Edge.from(0, 5), 105, 105);
        edge.refuses("as of nobody", HushAtFour::new, x -> x.as(0, 0), Check.BEYOND);
        boolean[][] isUnder = {
            {true, false, false, false, false, false},
            {true, true, false, false, false, false},
            {true, false, true, false, false, false},
            {true, false, false, true, false, false},
            {true, true, false, false, true, false},
            {true, false, true, false, false, true}};
        for (int p = 0; p < 6; p++) {
            for (int kind = 0; kind < 6; kind++) {
                int person = p;
                int above = kind;
                if (isUnder[p][kind]) {
                    edge.takes(p + " as " + kind, Edge::full, x -> x.as(person, above), 100 + p);
                } else {
                    edge.refuses(p + " as " + kind, Edge::full, x -> x.as(person, above), Check.KIND);
                }
            }
        }
    }

    /** In this order: nobody is BEYOND whatever the kind, and no kind is BEYOND whoever it is. */
    private static void asIsBeyondBeforeItIsKind() {
        edge.refuses("a 9th as a dog", Edge::full, x -> x.as(8, 3), Check.BEYOND);
        edge.refuses("a 9th as kind 6", Edge::full, x -> x.as(8, 6), Check.BEYOND);
        edge.refuses("a walker as kind 6", Edge::full, x -> x.as(0, 6), Check.BEYOND);
        edge.refuses("a walker as kind -1", Edge::full, x -> x.as(0, -1), Check.BEYOND);
    }
}
