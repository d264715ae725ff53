import java.lang.management.ManagementFactory;

/** All calls of a run live in one room: once an object is made, its calls make no more. */
public final class RoomTest {
    private static final Check check = new Check("RoomTest");
    private static long sink = 0;

    public static void main(String[] args) {
        com.sun.management.ThreadMXBean threads =
                (com.sun.management.ThreadMXBean) ManagementFactory.getThreadMXBean();
        HushAtFour x = new HushAtFour();
        for (int i = 0; i < 3; i++) {
            allCalls(x);
        }
        long before = threads.getCurrentThreadAllocatedBytes();
        long empty = threads.getCurrentThreadAllocatedBytes() - before;
        before = threads.getCurrentThreadAllocatedBytes();
        allCalls(x);
        long used = threads.getCurrentThreadAllocatedBytes() - before - empty;
        // The machine may take a little of its own; one row of people or numbers in a call of some would show.
        check.due("bytes above 200 that all calls take (" + sink + ")", Math.max(200, used), 200);
        check.end();
    }

    private static void allCalls(HushAtFour x) {
        for (int i = 0; i < 8; i++) {
            sink += x.person(i % 6, i);
        }
        sink += x.noise(1, 2) + x.hush(1, 4) + x.house(3, 2) + x.now(3) + x.of(1, 4) + x.set(1, 1, 3) + x.turn(1, 1);
        sink += x.as(4, 1) + x.minutes(40) + x.on(1, 400, 1) + x.heard(400) + x.reaches(3) + x.catches(1) + x.out();
        sink += x.where(1, 200) + x.kind(1, 200) + x.wide(100) + x.pace(100) + x.four(100) + x.still(100);
        sink += x.quietest(400) + x.feed(0x77696465, 4) + x.feed(0x20332020, 4) + x.town() + x.feed('?', 1) + x.town();
        sink += x.feed(0x646F6720, 4) + x.wipe() + x.sheet(0, 8, 40) + x.sheet(1, 8, 40) + x.write(0, 1, 3);
        sink += x.copy(0, 0, 1, 1, 3) + x.book(0, 1) + x.read(0, 1) + x.lays(0) + x.image() + x.undo() + x.tear();
        sink += x.count(3) + x.status(-1) + x.status(9) + x.noise(-1, 0) + x.person(9, 9);
    }
}
