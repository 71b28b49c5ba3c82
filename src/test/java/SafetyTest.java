import java.lang.management.ManagementFactory;
import java.util.NoSuchElementException;
import java.util.Random;

/**
 * No call throws but car() and at(), and those only a NoSuchElementException; and no call makes objects,
 * since all calls of a run share one room.
 */
public final class SafetyTest {
    private static final int[] EDGES = {Integer.MIN_VALUE, Integer.MAX_VALUE, -2, -1, 0, 1, 2, 6, 7, 16, 17, 39, 40,
        41, 90, 99, 100, 400, 401, 600, 601, 700, 740, 3000, 65535, 65536, 1 << 30};
    private static final String[] TRAINS = {"car old 50;", "car quick 20 leak 3;car slow 30;car old 40 out;",
        "full 900;feed 99;" + "car old 10 leak 99 hose 100;".repeat(16), "car old 50 stuck off;".repeat(6),
        "car quick 50;".repeat(10), "full 300;" + "car slow 99 keep 3 stuck on;".repeat(2)};
    private static final String[] HANDLES = {"", "both;", "dump 1;", "both;draw 99 99;let 99;", "let 9;".repeat(20),
        "draw 7 3;hold 9;let 5;dump 2;let 99;"};

    public static void main(String[] args) {
        Random random = new Random(11);
        for (int run = 0; run < 300; run++) {
            fuzz(random, run);
        }
        roomOfOneRun();
        Check.close("SafetyTest");
    }

    private static int any(Random r) {
        int way = r.nextInt(4);
        return way == 0 ? EDGES[r.nextInt(EDGES.length)] : way == 1 ? r.nextInt() : r.nextInt(60) - 5;
    }

    private static void fuzz(Random r, int run) {
        TrainPipe p = new TrainPipe();
        for (int call = 0; call < 512; call++) {
            int which = r.nextInt(30);
            try {
                call(p, r, which);
            } catch (NoSuchElementException e) {
                Check.due("run " + run + ", call kind " + which + " may throw", which == 5 || which == 6, true);
            } catch (RuntimeException e) {
                System.out.println("run " + run + ", call kind " + which + " threw " + e);
                Check.due("threw", true, false);
            }
        }
    }

    private static void call(TrainPipe p, Random r, int which) {
        switch (which) {
            case 0 -> p.feed(any(r), any(r), any(r), any(r), any(r));
            case 1 -> p.end(any(r));
            case 2 -> p.train();
            case 3 -> p.handle();
            case 4 -> p.fault();
            case 5 -> p.car(any(r), any(r));
            case 6 -> p.at(any(r), any(r), any(r));
            case 7 -> p.hears(any(r));
            case 8 -> p.easy();
            case 9 -> p.run(any(r), any(r), any(r));
            case 10 -> p.ran(any(r));
            case 11 -> p.help(any(r), any(r), any(r), any(r));
            case 12 -> p.parted(any(r), any(r), any(r), any(r), any(r));
            case 13 -> p.order(any(r), any(r), any(r), any(r));
            case 14 -> p.ordered(any(r));
            case 15 -> p.cut(any(r), any(r), any(r), any(r));
            case 16 -> p.fits(any(r), any(r));
            case 17 -> p.fitAt(any(r));
            case 18 -> p.walks(any(r));
            case 19 -> p.walked(any(r));
            case 20 -> p.day(r.nextBoolean());
            case 21 -> p.mended(any(r));
            case 22 -> p.suspects(any(r));
            case 23 -> p.suspect(any(r));
            case 24 -> p.next();
            case 25 -> p.count(any(r));
            case 26 -> Check.train(p, TRAINS[r.nextInt(TRAINS.length)]);
            case 27 -> Check.handle(p, HANDLES[r.nextInt(HANDLES.length)]);
            case 28 -> {
                Check.gauge(p, 1 + r.nextInt(400), r.nextInt(900), r.nextInt(900));
                p.fits(r.nextInt(100), -1);
            }
            default -> {
                Check.put(p, r.nextInt(40));
                p.day(r.nextBoolean());
            }
        }
    }

    private static void roomOfOneRun() {
        TrainPipe p = new TrainPipe();
        Check.train(p, TRAINS[1]);
        Check.handle(p, HANDLES[5]);
        everyCall(p);
        com.sun.management.ThreadMXBean bean = (com.sun.management.ThreadMXBean) ManagementFactory.getThreadMXBean();
        bean.getCurrentThreadAllocatedBytes();
        long before = bean.getCurrentThreadAllocatedBytes();
        for (int i = 0; i < 20; i++) {
            everyCall(p);
        }
        long made = bean.getCurrentThreadAllocatedBytes() - before;
        System.out.println("bytes made by 20 rounds of all calls: " + made);
        Check.due("calls make no objects", made < 2000, true);
    }

    private static void everyCall(TrainPipe p) {
        p.feed(0x00010200, 0x02000000, 0, 0, 0);
        p.end(6);
        p.fits(99, -1);
        p.fitAt(0);
        p.walks(5);
        p.walked(0);
        p.feed(0x01020304, 0, 0, 0, 0);
        p.end(4);
        p.day(true);
        p.mended(3);
        p.suspects(0);
        p.suspect(0);
        p.feed(0x01020304, 0, 0, 0, 0);
        p.end(4);
        p.next();
        p.train();
        p.handle();
        p.feed(0x64756d70, 0x20313b20, 0x20202020, 0x20202020, 0x20202020);
        p.handle();
        p.fault();
        p.car(1, 1);
        p.at(600, 1, 1);
        p.hears(1);
        p.easy();
        p.run(3, 700, 10);
        p.ran(0);
        p.help(3, 700, 10, 90000);
        p.parted(1, 9, 3, 700, 10);
        p.order(3, 700, 10, 0);
        p.order(3, 700, 10, 1);
        p.ordered(0);
        p.cut(3, 700, 10, 90000);
        p.count(4);
    }
}
