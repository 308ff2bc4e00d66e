import java.lang.management.ManagementFactory;

/** All calls of a run live in one room: a new object is small, and no call makes anything. */
public final class RoomTest {
    private static final long MOST_BYTES_OF_AN_OBJECT = 16384;
    private static final String TEXT =
        "r6 21;b0 1;b1 2;b2 3;b3 4;b4 5;b5 0;b0 3;b1 4;b2 5;g0 1;g1 2;g2 3;g3 4;g4 5;g0 5;p0 0;p1 1;p2 2;p3 3;p0 4;p1 5;p2 0;l0 1 9;l1 2 8;";
    private static final com.sun.management.ThreadMXBean THREADS = (com.sun.management.ThreadMXBean) ManagementFactory.getThreadMXBean();
    private static long sum = 0;

    private static long bytes() {
        return THREADS.getThreadAllocatedBytes(Thread.currentThread().getId());
    }

    private static void everyCall(AbsentPraise x) {
        for (int i = 0; i < TEXT.length(); i++) {
            sum += x.feed(TEXT.charAt(i));
        }
        sum += x.hill() + x.fault();
        for (int i = 0; i < 14; i++) {
            sum += x.told(i);
        }
        for (int i = 0; i < 5; i++) {
            sum += x.room(i, 2) + x.person(i, i) + x.liking(i, 0) + x.said(i, 0, 0);
        }
        sum += x.hour(60) + x.go(0, 1) + x.cough(0) + x.like(0, 1, 2) + x.drift(60) + x.undo();
        sum += x.warm(0, 100) + x.bestRoom(0, 30, 1) + x.route(0, 8, 0) + x.leavers(0, 0) + x.silent(3);
        sum += x.carried(0, -1) + x.carried(0, 20) + x.hale(60, 99) + x.note(0, 0, false) + x.thinks(0) + x.thinks(2);
        sum += x.ask(0) + x.listens(0, 1, 0) + x.write(0, 0) + x.judge() + x.tear() + x.seed(1) + x.keep(0) + x.goBack(0);
    }

    public static void main(String[] args) {
        everyCall(new AbsentPraise());
        bytes();
        long start = bytes();
        AbsentPraise x = new AbsentPraise();
        long made = bytes() - start;
        start = bytes();
        everyCall(x);
        long called = bytes() - start;
        System.out.println("an object takes " + made + " bytes, its calls " + called + (sum == 0 ? "." : ""));
        if (made > MOST_BYTES_OF_AN_OBJECT || called > 0) {
            System.exit(1);
        }
    }
}
