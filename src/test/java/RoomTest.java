import java.lang.management.ManagementFactory;

/** What an object takes of the room: little when it is made, and nothing by any call. */
public final class RoomTest {
    private static final Due due = new Due();
    private static final com.sun.management.ThreadMXBean THREADS =
        (com.sun.management.ThreadMXBean) ManagementFactory.getThreadMXBean();

    public static void main(String[] args) {
        run(new BeastFloor());
        long before = taken();
        BeastFloor x = new BeastFloor();
        long made = taken() - before;
        due.holds("a new object takes " + made + " bytes", made < 80000);
        before = taken();
        long sum = run(x);
        long called = taken() - before;
        System.out.println(made + " bytes for an object, " + called + " for its calls");
        due.holds("the calls take " + called + " bytes", called < 4000);
        due.holds("the calls answered", sum != 0);
        due.end();
    }

    private static long taken() {
        return THREADS.getThreadAllocatedBytes(Thread.currentThread().getId());
    }

    private static long feed(BeastFloor x, String text) {
        Due.feed(x, text);
        return x.text();
    }

    private static long run(BeastFloor x) {
        long sum = 0;
        String text = "book abab cdcd xxxx aabb;book aaaa bbbb cccc dddd;book abcd abcd abcd abcd;book xaxa xbxb xcxc xdxd;"
            + "patch;patch;patch;patch;row 1 9;row 2 9;row 3 9;row 4 9;patch;patch 0 1 2;row 99 999;row 98 997;";
        for (int i = 0; i < 8; i++) {
            sum += feed(x, text) + x.orders() + x.likely(0, 1, 0) + x.order(i, 3) + x.hands(0) + x.hands(12);
            sum += x.lay(i % 4, i, 1, i * 4) + x.best(4) + x.copies(0, 3) + x.lost(0) + x.fill() + x.may(63, 2);
            sum += x.together(3) + x.mix(27, i) + x.together(2) + x.works(1) + x.rings(1) + x.rank(3, 1);
            sum += x.sheet(i % 4, i % 3, 64) + x.write(i % 4, i, 3) + x.read(i % 4, i % 3, 0, 0, 64) + x.undo();
            sum += x.knot(i * 7) + x.knots() + x.slips(7, 2) + x.fits(999, 7, 3, 2) + x.symmetries() + x.seams();
        }
        return sum;
    }
}
