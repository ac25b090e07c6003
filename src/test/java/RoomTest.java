import java.lang.management.ManagementFactory;

/** All calls of a run share one room, so 512 of the dearest calls, on a coast as full as can be, make next to nothing. */
public final class RoomTest {
    private static final long MOST_BYTES = 20_000;

    public static void main(String[] args) {
        com.sun.management.ThreadMXBean thread = (com.sun.management.ThreadMXBean) ManagementFactory.getThreadMXBean();
        // what the machine makes when it first loads the classes doesn't count
        run();
        long ahead = thread.getThreadAllocatedBytes(Thread.currentThread().getId());
        int sum = run();
        long made = thread.getThreadAllocatedBytes(Thread.currentThread().getId()) - ahead;
        if (made > MOST_BYTES || sum == 0) {
            System.out.println("512 calls made " + made + " bytes, due are at most " + MOST_BYTES);
            System.exit(1);
        }
    }

    private static int run() {
        WindBrides x = new WindBrides();
        for (int i = 0; i < 6; i++) {
            x.girl(1 + i % 5, i, 9 - i);
            x.wind(7 - i, 9 - i, i / 2, 15 - i);
            x.promise(i, i / 2);
        }
        x.shelf(0, 0, 2);
        int sum = 0;
        for (int i = 0; i < 35; i++) {
            sum += x.best(4) + x.ith(3, 1) + x.ways(4) + x.bound(4, 63) + x.bars(4, 63) + x.game(4) + x.play(4) + x.often(40, 20);
            sum += x.windFor(i % 6) + x.dowryFor(i % 6) + x.kept(i % 6) + x.act(0, 3, i) + x.keep() + x.again() + x.sheet(0, 0, 40);
        }
        return sum;
    }
}
