import java.lang.management.ManagementFactory;

/** The dearest calls, as many as one object is used for, and many objects, make little: all live in one room. */
public final class RoomTest {
    /** 7.3 million elements of four bytes are 29 million; a tenth of it is left for any run. */
    private static final long BYTES_MOST = 2900000;
    /** What measuring itself may make, and far less than one small object a call would be. */
    private static final long BYTES_OF_NOTHING = 2000;
    private static final String TEN = "s0,9,0,0;s1,8,1,3;s2,7,2,0;s2,1,3,9;s3,4,4,0;s3,2,0,50;s4,1,1,99;s4,6,2,0;l1;";

    private RoomTest() { }

    public static void main(String[] args) {
        Check.isTrue("some 500 dear calls", bytesOf(RoomTest::dearCalls) < BYTES_MOST);
        Check.isTrue("some 500 years", bytesOf(RoomTest::years) < BYTES_MOST);
        Check.isTrue("a growing mill", bytesOf(RoomTest::growing) < BYTES_MOST);
        Check.isTrue("200 objects", bytesOf(RoomTest::objects) < BYTES_MOST);
        callsMakeNothing();
        Check.end();
    }

    private static long bytesOf(Runnable calls) {
        com.sun.management.ThreadMXBean threads =
                (com.sun.management.ThreadMXBean) ManagementFactory.getThreadMXBean();
        calls.run();
        long id = Thread.currentThread().getId();
        long before = threads.getThreadAllocatedBytes(id);
        calls.run();
        return threads.getThreadAllocatedBytes(id) - before;
    }

    private static MixedMill ten() {
        MixedMill x = Check.laid(TEN);
        x.halve(0, 4);
        x.halve(1, 4);
        return x;
    }

    private static void dearCalls() {
        MixedMill x = ten();
        for (int c = 0; c < 99; c++) {
            x.twoMills(1);
            x.most(-2);
            x.grows(0);
            x.together(0);
            x.more(0);
        }
    }

    private static void years() {
        MixedMill x = ten();
        for (int c = 0; c < 495; c++) x.year(c, 100, 1);
    }

    /** The rows of an object are made once: what was asked before makes nothing when it is asked again. */
    private static void callsMakeNothing() {
        MixedMill x = ten();
        makesNothing("years", () -> {
            for (int c = 0; c < 200; c++) x.year(c, 1, 1);
        });
        MixedMill y = ten();
        makesNothing("looking ahead", () -> lookAhead(y));
        MixedMill z = ten();
        makesNothing("pouring", () -> pourAndUndo(z));
        MixedMill w = ten();
        makesNothing("texts", () -> {
            for (int c = 0; c < 20; c++) {
                w.fault();
                w.lay();
                w.write(1, 'x');
                w.lay();
            }
        });
    }

    private static void makesNothing(String calls, Runnable run) {
        long bytes = bytesOf(run);
        Check.isTrue(calls + " make nothing, but made " + bytes + " bytes", bytes < BYTES_OF_NOTHING);
    }

    private static void lookAhead(MixedMill x) {
        for (int k = 0; k < 5; k++) {
            x.orders();
            x.most(-2);
            x.most(9);
            x.halvings();
            x.more(k);
            x.lacks(k);
            x.together(k);
            x.grows(k);
            x.twoMills(k & 1);
            x.stops(k % 3);
            x.sack(k, k);
            x.may(k);
            x.count(k);
        }
    }

    private static void pourAndUndo(MixedMill x) {
        for (int c = 0; c < 30; c++) {
            x.queue(0);
            x.pour(0);
            x.sell(1);
            x.keep();
            x.undo();
            x.undo();
            x.back();
            x.undo();
        }
    }

    private static void growing() {
        MixedMill x = ten();
        while (x.count(1) > 0) {
            if (x.pour(x.most(0)) < 0) break;
        }
        for (int c = 0; c < 10; c++) {
            x.undo();
            x.orders();
            x.twoMills(0);
            x.most(-2);
            x.more(1);
        }
    }

    private static void objects() {
        for (int c = 0; c < 200; c++) {
            MixedMill x = new MixedMill();
            x.twoMills(0);
            x.most(-2);
        }
    }
}
