import java.lang.management.ManagementFactory;

/** All calls of a run live in one room: no call makes anything, but the first keep of each of the eight. */
public final class RoomTest {
    private static final com.sun.management.ThreadMXBean BEAN =
        (com.sun.management.ThreadMXBean) ManagementFactory.getThreadMXBean();
    private static long sink = 0;

    public static void main(String[] args) {
        work(new NilPaid());
        NilPaid[] made = new NilPaid[1];
        long ahead = allocated();
        made[0] = new NilPaid();
        long forNew = allocated() - ahead;
        NilPaid x = made[0];
        for (int i = 0; i < 8; i++) {
            x.keep();
        }
        long forKept = allocated() - ahead - forNew;
        for (int i = 0; i < 8; i++) {
            x.undo();
        }
        ahead = allocated();
        work(x);
        long forCalls = allocated() - ahead;
        System.out.println("bytes: new " + forNew + ", kept " + forKept + ", calls " + forCalls + " " + (sink & 1));
        if (forNew > 12000 || forKept > 24000 || forCalls > 2000) {
            System.out.println("that is more room than is meant");
            System.exit(1);
        }
    }

    private static long allocated() {
        return BEAN.getThreadAllocatedBytes(Thread.currentThread().getId());
    }

    private static void work(NilPaid x) {
        for (int round = 0; round < 20; round++) {
            told(x, round);
            nilPaid(x);
            closed(x);
        }
    }

    private static void told(NilPaid x, int round) {
        x.terms(1, 2, 100, 200);
        sink += x.drawn(round, 9000);
        x.rule(round % 3);
        x.layer(round % 4, 100, 100);
        sink += x.termsFor(100, 1000000, 0) + x.priceFor(15000) + x.rank(3) + x.give(0, 1, 1, 1);
        x.keep();
        x.open();
    }

    private static void nilPaid(NilPaid x) {
        for (int h = 0; h < 10; h++) {
            x.excess(h, 5000);
            x.take(h, 10);
            sink += x.stand(h, h % 2 == 0, 5, 50 + h) + x.buyable(h) + x.costOf(h, 3);
            sink += x.ifClosed(h % 3, 10 + h) + x.tailPrice(h, 5) + x.needs(h, 50000);
            // take all;excess 77;;: a fault at the end
            x.feed(0x74616b65, 0x20616c6c, 0x3b657863, 0x65737320, 0x37373b20);
            sink += x.planFor(h, 18, 2);
            x.feed(0x74616b65, 0x20616c6c, 0x3b657863, 0x65737320, 0x37373b20);
            sink += x.plan(h, 20);
        }
        x.keep();
        x.close();
    }

    private static void closed(NilPaid x) {
        x.feed(0x31353078, 0x3330303b, 0x31323078, 0x3530303b, 0x31303178);
        x.feed(0x35202020, 0x20202020, 0x20202020, 0x20202020, 0x20202020);
        sink += x.book(40) + x.strikeFor(100) + x.soldFor(200, 1) + x.done();
        for (int what = 0; what < 20; what++) {
            sink += x.count(what) + x.of(what % 10, what % 11) + x.price(what % 4, what % 2) + x.gain(what % 10);
        }
        x.undo();
        x.undo();
    }
}
