import java.lang.management.ManagementFactory;

/** All calls of a run live in one room: an object is small, and its calls make nothing. */
final class RoomTest {
    private static final long MOST_BYTES_OF_AN_OBJECT = 100_000;
    private static final long MOST_BYTES_OF_ALL_CALLS = 10_000;

    private static final com.sun.management.ThreadMXBean THREADS =
            (com.sun.management.ThreadMXBean) ManagementFactory.getThreadMXBean();

    public static void main(String[] args) {
        calls(new BreweryCellar());
        long start = made();
        BreweryCellar x = new BreweryCellar();
        long object = made() - start;
        start = made();
        calls(x);
        long all = made() - start;
        Check.holds("an object takes " + object + " bytes", object < MOST_BYTES_OF_AN_OBJECT);
        Check.holds("512 calls make " + all + " bytes", all < MOST_BYTES_OF_ALL_CALLS);
        Check.finish();
    }

    private static long made() {
        return THREADS.getThreadAllocatedBytes(Thread.currentThread().getId());
    }

    /** Some 512 calls, of every method. */
    private static void calls(BreweryCellar x) {
        x.rate(0, 0, 100);
        x.image();
        for (int i = 0; i < 13; i++) {
            int tank = i % 6;
            x.brew(tank, 100, 100 * i);
            x.transfer(tank, (i + 1) % 6, 60);
            x.lose(tank, 5, 2);
            x.setLoss(i);
            x.size(tank, 900);
            x.order(i, 10, 0, 2000);
            x.drop(i - 3);
            x.fill(tank, i);
            x.fillAll();
            x.clean(tank);
            x.pass(2);
            x.feed(5, 'd', '1', ';', 'd', '1');
            x.run();
            x.reason();
            x.correct();
            x.back();
            for (int what = 0; what < 3; what++) {
                x.ofTank(tank, what);
                x.litres(tank, what);
                x.ofBatch(i, what);
                x.mix(tank, (tank + 1) % 6, 50, 500);
                x.ofOrder(i, 5);
                x.planned(what);
                x.holds(i, 500);
            }
        }
        x.excise(1);
        x.account(7);
        x.entry(0, 0);
        x.count(0);
        x.undo();
    }
}
