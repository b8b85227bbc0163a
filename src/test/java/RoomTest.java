import java.lang.management.ManagementFactory;

/** All calls of a run live in one room: a call makes no object, however dear it is. */
final class RoomTest {
    private static final Due DUE = new Due("RoomTest");
    private static final com.sun.management.ThreadMXBean THREADS =
            (com.sun.management.ThreadMXBean) ManagementFactory.getThreadMXBean();

    public static void main(String[] args) {
        PicturePegs warm = new PicturePegs();
        long sum = run(warm);
        PicturePegs x = new PicturePegs();
        long before = THREADS.getCurrentThreadAllocatedBytes();
        THREADS.getCurrentThreadAllocatedBytes();
        long asking = THREADS.getCurrentThreadAllocatedBytes() - before;
        before = THREADS.getCurrentThreadAllocatedBytes();
        sum += run(x);
        long made = THREADS.getCurrentThreadAllocatedBytes() - before;
        DUE.holds("bytes made by all calls: " + made + " (" + sum + ")", made <= 2 * asking + 64);
        DUE.end();
    }

    private static long run(PicturePegs x) {
        long sum = 0;
        for (int i = 0; i < 9; i++) {
            sum += x.person(i % 6, i % 6, 9 * i, i);
        }
        for (int turn = 0; turn < 9; turn++) {
            sum += x.feed(0x3b20_376c_6c65_62L, 7) + x.school() + x.again() + x.keep();
            for (int i = 0; i < 8; i++) {
                sum += x.person(i % 6, i % 6, 9 * i, i);
                sum += x.pegFor(i, 20) + x.kindFor(i, 20) + x.placeFor(i, 20) + x.alone(i)
                        + x.meet(0, i) + x.ahead(i, 60, 0) + x.circle(i) + x.prove(i, 10)
                        + x.judge(i) + x.sheet(i % 4, i % 4, 40) + x.put(i % 4, 3, -1)
                        + x.fits(i % 4, i, 0) + x.minds(i % 4, 0, 0, 8) + x.shelf(i % 4, 0, i)
                        + x.taken(i % 4, 0) + x.act(i % 4, 3, turn) + x.trace(0) + x.many(i)
                        + x.odds(8, i, 0) + x.hope(99, 1) + x.state(i) + x.row(i, 0)
                        + x.alterRow(i, 0, 0) + x.know(0, i, 1) + x.mind(i, i % 6, i % 6);
            }
            sum += x.gather() + x.apart() + x.found(30) + x.hours(60) + x.hour() + x.seed(turn);
        }
        return sum;
    }
}
