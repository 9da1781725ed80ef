/** Each promise of the document by itself: ordinary inputs, edges, wrong inputs. */
public final class PromiseTest {
    private static final int BAD = -1, NO = -2, FULL = -3, NONE = -4;
    /** Numbers that are none of anything. */
    private static final int[] FAR_OFF = {Integer.MIN_VALUE, -1000, 1000, Integer.MAX_VALUE};

    private PromiseTest() { }

    public static void main(String[] args) {
        newObject();
        write();
        wipe();
        fault();
        lay();
        sack();
        may();
        pour();
        halve();
        sell();
        undo();
        cost();
        queue();
        noQueue();
        stops();
        orders();
        most();
        soonest();
        halvings();
        more();
        lacks();
        together();
        grows();
        twoMills();
        year();
        keepAndBack();
        count();
        Check.end();
    }

    private static void due(String call, long got, long want) {
        Check.due(call, got, want);
    }

    private static void counts(String when, MixedMill x, int... want) {
        for (int w = 0; w < want.length; w++) due(when + ": count(" + w + ")", x.count(w), want[w]);
    }

    private static void sackIs(String when, MixedMill x, int i, int... want) {
        for (int w = 0; w < want.length; w++) due(when + ": sack(" + i + ", " + w + ")", x.sack(i, w), want[w]);
    }

    private static String times(int n, String text) {
        StringBuilder all = new StringBuilder();
        for (int k = 0; k < n; k++) all.append(text);
        return all.toString();
    }

    private static void newObject() {
        due("BAD", MixedMill.BAD, BAD);
        due("NO", MixedMill.NO, NO);
        due("FULL", MixedMill.FULL, FULL);
        due("NONE", MixedMill.NONE, NONE);
        MixedMill x = new MixedMill();
        counts("new", x, 3, 3, 0, 0, 0, 0, 0, 0);
        sackIs("new", x, 0, 0, 2, 0, 0, 0);
        sackIs("new", x, 1, 1, 3, 1, 0, 0);
        sackIs("new", x, 2, 0, 1, 0, 5, 0);
        due("new: law ONE", x.halvings(), 0);
        due("new: cost()", x.cost(), 0);
        x.halve(0, 1);
        due("new: a halving costs 5", x.cost(), 5);
        counts("another object is untouched", new MixedMill(), 3, 3, 0, 0, 0, 0, 0, 0);
    }

    private static void write() {
        MixedMill x = new MixedMill();
        for (int n : new int[] {0, 9, -1, Integer.MIN_VALUE, Integer.MAX_VALUE}) due("write of none", x.write(n, 59), BAD);
        due("nothing was written", x.count(7), 0);
        due("one byte, the lowest", x.write(1, 0x7878787878787863L), 1);
        due("three bytes, the highest first", x.write(3, 0x37_3B_6CL), 4);
        due("two bytes", x.write(2, 0x313BL), 6);
        due("c7;l1; stands there", x.fault(), NONE);
        due("eight bytes with the sign bit", x.write(8, 0x8000000000000000L), 14);
        due("the ninth bytes are the fault", x.fault(), 6);
        x.wipe();
        for (int w = 1; w <= 37; w++) due("write of eight", x.write(8, -1), 8 * w);
        due("too long", x.write(5, 0), FULL);
        due("BAD comes first", x.write(9, 0), BAD);
        due("nothing changed", x.count(7), 296);
        due("just long enough", x.write(4, 0), 300);
        due("one too long", x.write(1, 0), FULL);
        due("300 bytes", x.count(7), 300);
    }

    private static void wipe() {
        MixedMill x = new MixedMill();
        due("wipe of nothing", x.wipe(), 0);
        Check.tell(x, "c1;c2;c3;z");
        due("wipe", x.wipe(), 10);
        due("wipe again", x.wipe(), 0);
        due("no fault is left", x.fault(), NONE);
        due("write from the start", x.write(3, 0x63313BL), 3);
        due("the text is the new one", x.fault(), NONE);
        counts("the mill is as it was", x, 3, 3, 0);
    }

    private static void faultOf(String text, int want) {
        MixedMill x = new MixedMill();
        Check.tell(x, text);
        due("fault() of " + text, x.fault(), want);
        due("the text is kept", x.count(7), text.length());
        counts("the mill is as it was", x, 3, 3, 0);
        if (want != NONE) due("lay() of " + text, x.lay(), NO);
    }

    private static void fault() {
        faultOf("", NONE);
        faultOf("s4,9,4,99;", NONE);
        faultOf("s0,1,0,0;", NONE);
        faultOf("s04,09,04,09;l01;c00;c99;l0;", NONE);
        faultOf("s5,1,0,0;", 0);
        faultOf("s0,0,0,0;", 0);
        faultOf("s0,10,0,0;", 0);
        faultOf("s0,1,5,0;", 0);
        faultOf("s0,1,0,100;", 0);
        faultOf("c0;s10,1,0,0;", 3);
        faultOf("c0;s0,1,0,0,0;", 3);
        faultOf("c0;s0,1,0;", 3);
        faultOf("c0;s0,1,0,;", 3);
        faultOf("c0;s,1,0,0;", 3);
        faultOf("c0;s0,,0,0;", 3);
        faultOf("c0;s0;1;0;0;", 3);
        faultOf("c0;s0,1,0,0,", 3);
        faultOf("c0;s0,1,0,0", 3);
        faultOf("c0;s0,1,0,000;", 3);
        faultOf("c0;s-1,1,0,0;", 3);
        faultOf("c0;s 0,1,0,0;", 3);
        faultOf("c0;S0,1,0,0;", 3);
        faultOf("c0; l0;", 3);
        faultOf("c0;;", 3);
        faultOf("c0;l2;", 3);
        faultOf("c0;l;", 3);
        faultOf("c0;l0,0;", 3);
        faultOf("c0;l0", 3);
        faultOf("c0;l001;", 3);
        faultOf("c0;l", 3);
        faultOf("c0;c100;", 3);
        faultOf("c0;c;", 3);
        faultOf("c0;c1:", 3);
        faultOf("c0;c/;", 3);
        faultOf("c0;7;", 3);
        faultOf("l1;l9;x;", 3);
        faultOf("s0,1,0,0;" + (char) 243 + "0,1,0,0;", 9);
        faultOf("s0,1,0,0;" + (char) 0, 9);
        faultOf("s0,1,0,0;s" + (char) 176 + ",1,0,0;", 9);
        faultOf(times(8, "s0,1,0,0;") + "l1;c1;", NONE);
        faultOf(times(8, "s0,1,0,0;") + "l1;s0,1,0,0;x", 75);
        faultOf(times(100, "c1;"), NONE);
        faultOf(times(99, "c1;") + "c1,", 297);
        MixedMill x = new MixedMill();
        Check.tell(x, "s0,1,0,0;");
        Check.tell(x, "s0,1,0,0");
        due("bytes that were wiped don't count", x.fault(), 0);
    }

    private static void lay() {
        MixedMill x = new MixedMill();
        due("lay of an empty text", x.lay(), NO);
        Check.tell(x, "l1;c3;");
        due("lay without a sack", x.lay(), NO);
        due("the law is not taken", x.halvings(), 0);
        x.halve(1, 1);
        due("nor the cost", x.cost(), 5);
        x.keep();
        x.pour(0);
        x.queue(1);
        Check.tell(x, "s0,1,0,0;?");
        due("lay with a fault", x.lay(), NO);
        counts("nothing changed", x, 4, 3, 1, 2, 1, 2, 1, 10);
        Check.tell(x, "l1;s3,4,2,7;c8;s1,1,0,0;c9;");
        due("lay", x.lay(), 2);
        counts("laid", x, 2, 2, 0, 0, 0, 0, 0, 27);
        sackIs("laid", x, 0, 3, 4, 2, 7, 0);
        sackIs("laid", x, 1, 1, 1, 0, 0, 0);
        due("nothing to undo", x.undo(), NO);
        due("nothing kept", x.back(), NO);
        due("no cost yet", x.cost(), 0);
        due("the law is TWO", x.halvings(), NO);
        x.halve(0, 1);
        due("the last cost told", x.cost(), 9);
        due("laid again, of the same text", x.lay(), 2);
        sackIs("laid again", x, 0, 3, 4, 2, 7, 0);
        due("as new", x.cost(), 0);
        Check.tell(x, "s0,2,0,0;l1;l0;");
        x.lay();
        due("the last law told", x.halvings(), 0);
        x.halve(0, 1);
        due("a cost that is not told is 5", x.cost(), 5);
        Check.tell(x, "s0,2,0,0;l1;");
        x.lay();
        Check.tell(x, "s0,2,0,0;");
        x.lay();
        due("a law that is not told is ONE", x.halvings(), 0);
        MixedMill y = Check.laid("s0,1,0,0;s1,1,0,0;s0,1,0,0;");
        y.pour(0);
        y.lay();
        due("nothing was poured at a mill laid", y.may(2), 1);
    }

    private static void sack() {
        MixedMill x = Check.laid("s3,7,4,98;s2,1,0,5;");
        sackIs("sack", x, 0, 3, 7, 4, 98, 0, BAD);
        sackIs("sack", x, 1, 2, 1, 0, 5, 0, BAD);
        due("sack(2, 0)", x.sack(2, 0), BAD);
        due("sack(-1, 0)", x.sack(-1, 0), BAD);
        due("sack(0, -1)", x.sack(0, -1), BAD);
        for (int off : FAR_OFF) {
            due("sack far off", x.sack(off, 0), BAD);
            due("sack what far off", x.sack(0, off), BAD);
        }
        x.sell(0);
        x.pour(1);
        due("SOLD", x.sack(0, 4), 2);
        due("POURED", x.sack(1, 4), 1);
        due("a sold one keeps its size", x.sack(0, 1), 7);
    }

    private static void may() {
        MixedMill x = Check.laid("s0,1,0,0;s1,1,0,0;s0,1,0,0;s1,1,0,0;s2,1,0,0;");
        for (int i = 0; i < 5; i++) due("at first each may", x.may(i), 1);
        due("may(5)", x.may(5), BAD);
        due("may(-1)", x.may(-1), BAD);
        for (int off : FAR_OFF) due("may far off", x.may(off), BAD);
        x.pour(0);
        due("a poured one", x.may(0), NO);
        due("of the last kind", x.may(2), 0);
        due("of another", x.may(3), 1);
        x.pour(1);
        due("by ONE the one ahead does not matter", x.may(2), 1);
        due("of the last kind", x.may(3), 0);
        x.sell(4);
        due("a sold one", x.may(4), NO);

        MixedMill y = Check.laid("s0,1,0,0;s1,1,0,0;s0,1,0,0;s1,1,0,0;s2,1,0,0;s3,1,0,0;l1;");
        y.pour(0);
        due("by TWO the last one", y.may(2), 0);
        y.pour(1);
        due("by TWO the one ahead of the last", y.may(2), 0);
        due("by TWO the last one", y.may(3), 0);
        due("by TWO another", y.may(4), 1);
        y.pour(4);
        due("by TWO the third last", y.may(2), 1);
        due("by TWO the second last", y.may(3), 0);
    }

    private static void pour() {
        MixedMill x = Check.laid("s0,3,0,0;s1,2,0,10;s0,4,0,5;s0,1,0,0;s1,1,0,0;");
        due("pour(5)", x.pour(5), BAD);
        due("pour(-1)", x.pour(-1), BAD);
        for (int off : FAR_OFF) due("pour far off", x.pour(off), BAD);
        due("from hour 0 on", x.pour(0), 3);
        counts("poured", x, 5, 4, 1, 3, 0, 1);
        due("poured already", x.pour(0), NO);
        due("of the same kind", x.pour(2), NO);
        counts("nothing changed", x, 5, 4, 1, 3, 0, 1);
        due("it comes later", x.pour(1), 12);
        due("it came earlier", x.pour(2), 16);
        x.sell(3);
        due("sold already", x.pour(3), NO);
        x.queue(4);
        due("the last", x.pour(4), 17);
        due("the queue is empty", x.count(4), 0);
        MixedMill y = Check.laid("s0,9,0,99;");
        due("the latest hour", y.pour(0), 108);
        MixedMill z = Check.laid("s0,1,0,0;s1,1,0,0;s0,1,0,0;l1;");
        z.pour(0);
        z.queue(1);
        z.queue(2);
        due("NO leaves the queue", z.pour(0), NO);
        due("the queue", z.count(4), 2);
        z.pour(1);
        due("by TWO", z.pour(2), NO);
    }

    private static void halve() {
        MixedMill x = Check.laid("s3,9,2,44;s1,1,0,0;s2,2,0,0;s2,2,0,0;s0,5,0,0;s0,5,0,0;s0,5,0,0;s0,5,0,0;c7;");
        due("s = 0", x.halve(0, 0), BAD);
        due("s = 9", x.halve(0, 9), BAD);
        due("halve(8, 1)", x.halve(8, 1), BAD);
        due("halve(-1, 1)", x.halve(-1, 1), BAD);
        for (int off : FAR_OFF) {
            due("halve far off", x.halve(off, 1), BAD);
            due("halve s far off", x.halve(0, off), BAD);
        }
        due("all of it", x.halve(1, 1), NO);
        due("more than all", x.halve(2, 8), NO);
        x.queue(0);
        x.queue(1);
        due("halve(0, 8)", x.halve(0, 8), 8);
        sackIs("the old one", x, 0, 3, 1, 2, 44, 0);
        sackIs("the new one", x, 8, 3, 8, 2, 44, 0);
        counts("halved", x, 9, 9, 0, 0, 2, 1);
        x.pour(2);
        x.sell(3);
        due("one that was poured", x.halve(2, 1), NO);
        due("one that was sold", x.halve(3, 1), NO);
        due("a new one", x.halve(8, 3), 9);
        sackIs("the new one halved", x, 8, 3, 5, 2, 44, 0);
        sackIs("the newest", x, 9, 3, 3, 2, 44, 0);
        due("an eleventh", x.halve(4, 1), FULL);
        due("NO comes ahead of FULL", x.halve(1, 1), NO);
        due("BAD comes ahead of FULL", x.halve(4, 9), BAD);
        due("what was halved cost", x.cost(), 14);
        counts("nothing changed", x, 10, 8, 1, 2, 0, 4);
        due("of an old size that is 5", x.sack(4, 1), 5);
    }

    private static void sell() {
        MixedMill x = Check.laid("s0,6,0,50;s1,2,0,0;s0,3,0,0;");
        due("sell(3)", x.sell(3), BAD);
        due("sell(-1)", x.sell(-1), BAD);
        for (int off : FAR_OFF) due("sell far off", x.sell(off), BAD);
        x.queue(1);
        due("its size", x.sell(0), 6);
        counts("sold", x, 3, 2, 0, 0, 0, 1);
        x.queue(1);
        due("sold already", x.sell(0), NO);
        due("NO leaves the queue", x.count(4), 1);
        x.pour(2);
        due("poured", x.sell(2), NO);
        due("one that may not be poured can be sold", Check.laid("s0,1,0,0;s0,4,0,0;").sell(1), 4);
        due("a sold one is none that was poured", x.may(1), 1);
    }

    private static void undo() {
        MixedMill x = Check.laid("s0,3,1,4;s1,2,0,10;s0,4,0,5;s2,9,0,0;");
        due("nothing to undo", x.undo(), NO);
        x.pour(0);
        x.halve(3, 2);
        x.sell(1);
        x.queue(3);
        due("undo of a sale", x.undo(), 2);
        sackIs("it waits again", x, 1, 1, 2, 0, 10, 0);
        due("the queue is empty", x.count(4), 0);
        due("undo of a halving", x.undo(), 1);
        counts("as before", x, 4, 3, 1, 7, 0, 1);
        due("its size", x.sack(3, 1), 9);
        due("the new one is gone", x.sack(4, 0), BAD);
        due("its cost", x.cost(), 0);
        due("undo of a pouring", x.undo(), 0);
        counts("as at first", x, 4, 4, 0, 0, 0, 0);
        due("nothing is poured last", x.may(2), 1);
        x.queue(3);
        due("nothing more", x.undo(), NO);
        due("NO leaves the queue", x.count(4), 1);

        MixedMill y = Check.laid("s0,1,0,0;s1,1,0,0;s2,1,0,0;s0,1,0,0;s1,1,0,0;s2,1,0,0;s0,5,0,0;s1,5,0,0;l1;");
        y.halve(7, 1);
        y.halve(7, 1);
        for (int i = 0; i < 7; i++) due("pour", y.pour(i), i < 6 ? i + 1 : 11);
        due("eight at most", y.count(5), 8);
        for (int k = 7; k >= 0; k--) due("undo", y.undo(), k);
        due("the ninth is beyond", y.undo(), NO);
        counts("the first halving stands", y, 9, 9, 0, 0, 0, 0);
        due("its cost", y.cost(), 5);
        y.pour(0);
        y.pour(1);
        y.undo();
        due("by TWO what was poured last is as before", y.may(4), 1);
        due("by TWO what was poured last is as before", y.may(3), 0);
        due("one more can be undone", y.count(5), 1);
        y.keep();
        due("keep leaves it", y.undo(), 0);
    }

    private static void cost() {
        MixedMill x = Check.laid("s0,9,0,0;c99;");
        due("cost()", x.cost(), 0);
        x.halve(0, 1);
        x.halve(0, 1);
        due("of two", x.cost(), 198);
        x.undo();
        due("one undone", x.cost(), 99);
        x.sell(0);
        due("a sale costs nothing", x.cost(), 99);
        MixedMill y = Check.laid("s0,9,0,0;c0;");
        y.halve(0, 1);
        due("for nothing", y.cost(), 0);
    }

    private static void queue() {
        MixedMill x = Check.laid("s0,5,0,0;s1,2,0,0;s0,3,0,0;s2,1,0,0;s3,1,0,0;");
        due("queue(5)", x.queue(5), BAD);
        due("queue(-1)", x.queue(-1), BAD);
        for (int off : FAR_OFF) due("queue far off", x.queue(off), BAD);
        x.pour(3);
        x.sell(4);
        due("poured", x.queue(3), NO);
        due("sold", x.queue(4), NO);
        due("queue(2)", x.queue(2), 1);
        due("in it", x.queue(2), NO);
        due("one that may not be poured behind it", x.queue(0), 2);
        due("halving leaves it", x.halve(0, 1), 5);
        due("a new one", x.queue(5), 3);
        due("how many", x.count(4), 3);
        x.sell(1);
        due("empty as one is sold", x.queue(2), 1);
        x.undo();
        due("empty as something is undone", x.count(4), 0);
        MixedMill y = Check.laid("s0,9,0,0;" + times(7, "s1,1,0,0;"));
        y.halve(0, 1);
        y.halve(0, 1);
        for (int i = 0; i < 10; i++) due("ten in the queue", y.queue(9 - i), i + 1);
        due("one of ten again", y.queue(3), NO);
        due("ten stop", y.stops(0), 1);
        due("ten end", y.stops(1), 1);
        MixedMill z = Check.laid("s0,5,0,0;s1,5,0,0;s2,1,0,0;s3,1,0,0;s2,1,0,0;s3,1,0,0;s2,1,0,0;s3,1,0,0;");
        z.halve(0, 1);
        z.halve(1, 1);
        for (int i = 0; i < 10; i++) due("ten in the queue", z.queue(i), i + 1);
        due("ten stop nowhere", z.stops(0), NONE);
        due("all ten end", z.stops(1), 16);
        due("bread of ten", z.stops(2), 4);
    }

    private static void noQueue() {
        MixedMill x = new MixedMill();
        due("none", x.noQueue(), 0);
        x.queue(1);
        x.queue(0);
        due("noQueue()", x.noQueue(), 2);
        due("empty", x.count(4), 0);
        due("again", x.noQueue(), 0);
        due("it can be in it again", x.queue(1), 1);
    }

    private static void stops() {
        MixedMill x = Check.laid("s0,3,0,0;s1,2,0,20;s2,4,0,0;s2,1,0,0;s0,1,0,0;s1,1,0,0;");
        due("an empty queue", x.stops(0), NONE);
        due("it ends now", x.stops(1), 0);
        due("no bread", x.stops(2), 0);
        due("stops(-1)", x.stops(-1), BAD);
        due("stops(3)", x.stops(3), BAD);
        for (int off : FAR_OFF) due("stops far off", x.stops(off), BAD);
        x.queue(0);
        x.queue(1);
        due("two make no bread", x.stops(2), 0);
        x.queue(2);
        due("three of three kinds do", x.stops(2), 1);
        due("it stops nowhere", x.stops(0), NONE);
        due("it ends", x.stops(1), 26);
        x.queue(3);
        due("it stops", x.stops(0), 3);
        due("it ends ahead of that", x.stops(1), 26);
        x.queue(4);
        x.queue(5);
        due("behind it does not matter", x.stops(0), 3);
        due("nor for the end", x.stops(1), 26);
        due("bread is of the whole queue", x.stops(2), 2);
        x.halve(2, 1);
        due("a halved one is smaller", x.stops(1), 25);
        x.noQueue();
        x.pour(0);
        x.queue(4);
        due("it stops at the first", x.stops(0), 0);
        due("it ends now", x.stops(1), 3);
        due("nothing was poured by asking", x.count(2), 1);

        MixedMill y = Check.laid("s0,1,0,0;s1,1,0,0;s0,1,0,9;s2,1,0,0;s1,1,0,0;l1;");
        y.queue(0);
        y.queue(1);
        y.queue(2);
        due("by TWO", y.stops(0), 2);
        due("by TWO", y.stops(1), 2);
        due("two kinds are no bread", y.stops(2), 0);
        y.pour(0);
        y.queue(1);
        y.queue(3);
        y.queue(2);
        y.queue(4);
        due("by TWO", y.stops(0), NONE);
        due("by TWO", y.stops(1), 11);
        due("bread of the queue alone", y.stops(2), 2);
        y.pour(1);
        y.queue(2);
        due("by TWO from what was poured", y.stops(0), 0);
    }

    private static void orders() {
        due("aba", new MixedMill().orders(), 1);
        due("three kinds", Check.laid("s0,1,0,0;s1,1,0,0;s2,1,0,0;").orders(), 6);
        due("alike", Check.laid("s0,1,0,0;s0,9,1,50;s1,1,0,0;s2,1,0,0;").orders(), 6);
        due("none", Check.laid("s0,1,0,0;s0,1,0,0;").orders(), 0);
        due("by TWO", Check.laid("s0,1,0,0;s0,1,0,0;s1,1,0,0;s2,1,0,0;l1;").orders(), 2);
        due("by TWO abcab", Check.laid("s0,1,0,0;s0,1,0,0;s1,1,0,0;s1,1,0,0;s2,1,0,0;l1;").orders(), 2);
        MixedMill x = Check.laid("s0,1,0,0;s0,1,0,0;s1,1,0,0;s2,1,0,0;");
        x.pour(0);
        due("from now on", x.orders(), 4);
        x.sell(1);
        due("sold ones don't matter", x.orders(), 2);
        x.pour(2);
        x.pour(3);
        due("nothing waits", x.orders(), 1);
        MixedMill y = Check.laid("s0,2,0,0;s1,2,0,0;s2,1,0,0;s2,1,0,0;s3,1,0,0;s3,1,0,0;s4,1,0,0;s4,1,0,0;");
        y.halve(0, 1);
        y.halve(1, 1);
        due("ten sacks, two of each kind", y.orders(), 39480);
        MixedMill z = Check.laid("s0,1,0,0;s1,1,0,0;s0,1,0,0;s2,1,0,0;l1;");
        z.pour(0);
        z.pour(1);
        due("by TWO from now on", z.orders(), 1);
    }

    private static void rowIs(String when, MixedMill x, int... row) {
        due(when + ": most(-1)", x.most(-1), row.length);
        for (int i = 0; i < row.length; i++) due(when + ": most(" + i + ")", x.most(i), row[i]);
        due(when + ": behind the last", x.most(row.length), NONE);
    }

    private static void most() {
        MixedMill x = Check.laid("s0,1,0,0;s0,2,0,0;s0,3,0,0;s1,1,0,0;s2,1,0,0;");
        rowIs("all of them", x, 0, 3, 1, 4, 2);
        rowIs("not all", Check.laid("s0,1,0,0;s0,1,0,0;s1,1,0,0;s0,1,0,0;"), 0, 2, 1);
        rowIs("by TWO", Check.laid("s0,1,0,0;s0,1,0,0;s1,1,0,0;s2,1,0,0;l1;"), 0, 2, 3, 1);
        rowIs("by TWO not all", Check.laid("s0,1,0,0;s1,1,0,0;s0,1,0,0;s1,1,0,0;l1;"), 0, 1);
        rowIs("the first must be another", Check.laid("s1,1,0,0;s0,1,0,0;s0,1,0,0;"), 1, 0, 2);
        x.pour(1);
        rowIs("from now on", x, 3, 0, 4, 2);
        x.sell(3);
        rowIs("without a sold one", x, 4, 0);
        x.sell(4);
        rowIs("none may", x);
        due("most(-3)", x.most(-3), BAD);
        due("most far below", x.most(Integer.MIN_VALUE), BAD);
        due("most far above", x.most(Integer.MAX_VALUE), NONE);
        due("most(10)", x.most(10), NONE);
        due("soonest of none", x.most(-2), 2);
        MixedMill y = Check.laid("s0,2,0,0;s1,2,0,0;s2,1,0,0;s2,1,0,0;s3,1,0,0;s3,1,0,0;s4,1,0,0;s4,1,0,0;l1;");
        y.halve(0, 1);
        y.halve(1, 1);
        rowIs("ten", y, 0, 1, 2, 4, 6, 3, 5, 7, 8, 9);
        MixedMill z = Check.laid("s0,1,0,0;s1,1,0,0;s0,1,0,0;s2,1,0,0;l1;");
        z.pour(0);
        z.pour(1);
        rowIs("by TWO from now on", z, 3, 2);
    }

    private static void soonest() {
        due("waiting for one", Check.laid("s0,1,0,50;s1,9,0,0;").most(-2), 51);
        due("by any row, not the first", Check.laid("s0,2,0,10;s1,5,0,0;s2,4,0,0;").most(-2), 12);
        due("the small one of a kind", Check.laid("s0,9,0,0;s0,1,0,0;").most(-2), 1);
        due("the big one first, the small one last", Check.laid("s0,1,0,0;s0,9,0,5;s1,1,0,30;").most(-2), 32);
        MixedMill x = Check.laid("s0,3,0,0;s0,2,0,0;s1,4,0,0;");
        x.pour(0);
        due("from now on", x.most(-2), 9);
        due("by TWO", Check.laid("s0,3,0,0;s0,2,0,0;s1,4,0,0;l1;").most(-2), 6);
        due("one order of the first two is sooner", Check.laid("s0,1,0,9;s1,9,0,0;s2,1,0,10;").most(-2), 11);
        due("all at once", Check.laid("s0,9,0,99;s1,9,0,99;").most(-2), 117);
    }

    private static void halvings() {
        due("none needed", new MixedMill().halvings(), 0);
        due("one", Check.laid("s0,1,0,0;s0,1,0,0;s0,1,0,0;s1,2,0,0;").halvings(), 1);
        due("of new ones, too", Check.laid("s0,1,0,0;s0,1,0,0;s0,1,0,0;s0,1,0,0;s1,3,0,0;").halvings(), 2);
        due("not enough to halve", Check.laid("s0,9,0,0;s0,9,0,0;s0,9,0,0;s0,9,0,0;s1,2,0,0;").halvings(), NONE);
        due("of two kinds", Check.laid("s0,1,0,0;s0,1,0,0;s0,1,0,0;s0,1,0,0;s0,1,0,0;s1,2,0,0;s2,2,0,0;").halvings(), 2);
        due("the others come first", Check.laid("s1,2,0,0;s0,1,0,0;s0,1,0,0;s0,1,0,0;").halvings(), 1);
        due("one kind alone", Check.laid("s0,9,0,0;s0,9,0,0;").halvings(), NONE);
        due("more than ten sacks", Check.laid(times(7, "s0,1,0,0;") + "s1,9,0,0;").halvings(), 5);
        MixedMill x = Check.laid("s0,5,0,0;s0,5,0,0;s1,5,0,0;");
        due("before", x.halvings(), 0);
        x.pour(0);
        due("behind one of the kind", x.halvings(), 0);
        x.sell(2);
        due("without the other kind", x.halvings(), NONE);
        x.undo();
        x.undo();
        x.sell(2);
        x.sell(1);
        due("a single one", x.halvings(), 0);
        x.pour(0);
        due("nothing waits", x.halvings(), 0);
        MixedMill y = Check.laid("s0,5,0,0;s0,5,0,0;s0,5,0,0;s1,5,0,0;");
        y.pour(0);
        due("from now on it is one more", y.halvings(), 1);
        MixedMill z = Check.laid("s0,1,0,0;s0,1,0,0;s0,1,0,0;s1,2,0,0;l1;");
        due("by TWO", z.halvings(), NO);
        due("by TWO none needed", Check.laid("s0,1,0,0;l1;").halvings(), NO);
    }

    private static void more() {
        MixedMill x = Check.laid("s0,1,0,0;s0,1,0,0;s0,1,0,0;s1,1,0,0;");
        due("of too many", x.more(0), 0);
        due("two more", x.more(1), 2);
        due("two more", x.more(4), 2);
        due("more(-1)", x.more(-1), BAD);
        due("more(5)", x.more(5), BAD);
        for (int off : FAR_OFF) due("more far off", x.more(off), BAD);
        x.pour(0);
        due("from now on", x.more(0), 0);
        due("from now on", x.more(1), 2);
        due("by TWO", Check.laid("s0,1,0,0;s1,1,0,0;s0,1,0,0;s1,1,0,0;l1;").more(2), 3);
        due("by TWO", Check.laid("s0,1,0,0;s1,1,0,0;l1;").more(1), 0);
        MixedMill y = Check.laid("s0,2,0,0;s1,2,0,0;s2,1,0,0;s2,1,0,0;s3,1,0,0;s3,1,0,0;s4,1,0,0;s4,1,0,0;");
        y.halve(0, 1);
        y.halve(1, 1);
        due("an eleventh", y.more(3), 1);
        counts("nothing changed", y, 10, 10);
    }

    private static void lacks() {
        MixedMill x = Check.laid("s0,1,0,0;s0,1,0,0;s0,1,0,0;s1,1,0,0;s2,1,0,0;");
        due("lacks(0)", x.lacks(0), 3);
        due("lacks(1)", x.lacks(1), 2);
        due("lacks(2)", x.lacks(2), 2);
        due("lacks(3)", x.lacks(3), 0);
        due("lacks(-1)", x.lacks(-1), BAD);
        due("lacks(5)", x.lacks(5), BAD);
        for (int off : FAR_OFF) due("lacks far off", x.lacks(off), BAD);
        x.pour(0);
        due("from now on", x.lacks(0), 2);
        due("from now on", x.lacks(1), 2);
        x.sell(4);
        x.sell(3);
        due("none may anyway", x.lacks(0), 0);
        due("by TWO", Check.laid("s0,1,0,0;s1,1,0,0;s2,1,0,0;s0,1,0,0;l1;").lacks(2), 2);
    }

    private static void pairsAre(String when, MixedMill x, int pairs, int... with) {
        due(when + ": together(-1)", x.together(-1), pairs);
        for (int o = 0; o < with.length; o++) due(when + ": together(" + o + ")", x.together(o), with[o]);
    }

    private static void together() {
        MixedMill x = Check.laid("s0,1,0,0;s1,1,1,0;s2,1,2,0;s3,1,3,0;s4,1,4,0;");
        pairsAre("the first of all ways", x, 2, 1, 0, 3, 2, NONE);
        due("together(-2)", x.together(-2), BAD);
        due("together(5)", x.together(5), BAD);
        for (int off : FAR_OFF) due("together far off", x.together(off), BAD);
        x.sell(1);
        pairsAre("nothing of 1 waits", x, 2, 2, NONE, 0, 4, 3);
        x.pour(0);
        pairsAre("nothing of 0 waits", x, 1, NONE, NONE, 3, 2, NONE);
        pairsAre("most comes ahead of first",
                Check.laid("s0,1,0,0;s1,1,1,0;s2,1,2,0;s2,1,3,0;s2,1,3,0;"), 2, 2, 3, 0, 1, NONE);
        pairsAre("of one kind", Check.laid("s0,1,0,0;s0,1,1,0;"), 0, NONE, NONE, NONE, NONE, NONE);
        pairsAre("nobody comes last", Check.laid("s0,1,0,0;s1,1,1,0;s1,1,2,0;"), 1, 1, 0, NONE, NONE, NONE);
        MixedMill y = Check.laid("s0,1,4,0;s0,1,0,0;s0,1,1,0;s1,1,1,0;s0,1,2,0;");
        pairsAre("before", y, 1, 1, 0, NONE, NONE, NONE);
        y.pour(0);
        pairsAre("from now on", y, 0, NONE, NONE, NONE, NONE, NONE);
        pairsAre("by TWO", Check.laid("s0,1,0,0;s1,1,1,0;s0,1,1,0;s2,1,2,0;l1;"), 1, 2, NONE, 0, NONE, NONE);
        pairsAre("alone with oneself is none", Check.laid("s0,1,3,0;s1,1,3,0;"), 0, NONE, NONE, NONE, NONE, NONE);
    }

    private static void grows() {
        MixedMill x = Check.laid("s0,1,0,0;s0,1,1,0;s0,1,2,0;s1,1,3,0;s0,1,0,0;");
        due("all of his", x.grows(0), 1);
        due("one of his", x.grows(1), 1);
        due("what he has is best", x.grows(3), 1);
        due("nothing of his", x.grows(4), NONE);
        due("grows(-1)", x.grows(-1), BAD);
        due("grows(5)", x.grows(5), BAD);
        for (int off : FAR_OFF) due("grows far off", x.grows(off), BAD);
        due("the lowest", Check.laid("s3,1,2,0;").grows(2), 0);
        due("not his own", Check.laid("s0,1,0,0;s0,1,2,0;").grows(2), 1);
        x.pour(3);
        due("what waits alone", x.grows(3), NONE);
        MixedMill y = Check.laid("s0,1,0,0;s4,1,1,0;");
        y.pour(0);
        due("from now on", y.grows(1), 1);
        y.sell(1);
        due("a sold one", y.grows(1), NONE);
        due("by TWO", Check.laid("s0,1,0,0;s1,1,0,0;s0,1,0,0;s0,1,4,0;l1;").grows(4), 2);
    }

    private static void twoMillsAre(String when, MixedMill x, int hour, int sacks) {
        due(when + ": twoMills(0)", x.twoMills(0), hour);
        due(when + ": twoMills(1)", x.twoMills(1), sacks);
    }

    private static void twoMills() {
        MixedMill x = Check.laid("s0,5,0,0;s0,3,0,0;s1,4,0,0;");
        twoMillsAre("parted", x, 7, 1);
        due("twoMills(-1)", x.twoMills(-1), BAD);
        due("twoMills(2)", x.twoMills(2), BAD);
        for (int off : FAR_OFF) due("twoMills far off", x.twoMills(off), BAD);
        x.pour(0);
        twoMillsAre("this one is later and needs another kind", x, 7, 0);
        x.pour(2);
        twoMillsAre("this one has none: now", x, 9, 0);
        x.pour(1);
        twoMillsAre("nothing waits", x, 12, 0);
        twoMillsAre("two of a kind", Check.laid("s0,1,0,0;s0,1,0,0;"), 1, 1);
        twoMillsAre("three of a kind", Check.laid("s0,1,0,0;s0,1,0,0;s0,1,0,0;"), NONE, NONE);
        twoMillsAre("the lowest set", Check.laid("s0,2,0,9;s1,1,0,0;"), 11, 0);
        MixedMill y = Check.laid("s0,1,0,0;s0,2,0,0;s0,2,0,0;s1,9,0,0;");
        y.pour(0);
        y.sell(3);
        twoMillsAre("none that may here", y, NONE, NONE);
        MixedMill z = Check.laid("s4,1,0,0;s3,1,0,0;s0,6,0,0;s0,6,0,0;");
        z.sell(0);
        z.pour(1);
        twoMillsAre("bits are of sacks", z, 7, 4);
        twoMillsAre("by TWO", Check.laid("s0,1,0,0;s1,1,0,0;s0,1,0,0;s1,1,0,0;l1;"), 2, 3);
        MixedMill w = Check.laid("s0,9,0,90;s1,1,0,0;s0,1,0,0;s2,1,0,0;l1;");
        w.pour(0);
        w.pour(1);
        twoMillsAre("the other one is from hour 0 on", w, 100, 0);
        MixedMill ten = Check.laid("s0,3,0,0;s1,2,0,0;s0,1,0,0;s1,1,0,0;s0,1,0,0;s1,1,0,0;s0,1,0,0;s1,1,0,0;");
        ten.halve(0, 2);
        ten.halve(1, 1);
        twoMillsAre("ten", ten, 6, 31);
    }

    private static void year() {
        MixedMill x = new MixedMill();
        due("z = -1", x.year(-1, 1, 0), BAD);
        due("z = 10000", x.year(10000, 1, 0), BAD);
        due("n = 0", x.year(0, 0, 0), BAD);
        due("n = 101", x.year(0, 101, 0), BAD);
        due("what = -1", x.year(0, 1, -1), BAD);
        due("what = 2", x.year(0, 1, 2), BAD);
        for (int off : FAR_OFF) {
            due("what far off", x.year(0, 1, off), BAD);
            due("n far off", x.year(0, off, 0), BAD);
        }
        due("z far off", x.year(Integer.MAX_VALUE, 1, 0), BAD);
        // By z = 0 the kinds are 1, 2, 4, 4, 1, 4, 0, 3, 3, 1, ..
        int[] byOne = {1, 2, 3, 3, 5, 5, 7, 8, 8, 10};
        int[] byTwo = {1, 2, 3, 3, 4, 4, 6, 7, 7, 10};
        MixedMill y = Check.laid("s0,1,0,0;l1;");
        for (int n = 1; n <= 10; n++) {
            due("by ONE year(0, " + n + ", 0)", x.year(0, n, 0), byOne[n - 1]);
            due("by ONE year(0, " + n + ", 1)", x.year(0, n, 1), n - byOne[n - 1]);
            due("by TWO year(0, " + n + ", 0)", y.year(0, n, 0), byTwo[n - 1]);
            due("by TWO year(0, " + n + ", 1)", y.year(0, n, 1), n - byTwo[n - 1]);
        }
        due("by ONE", x.year(5, 100, 0), 100);
        due("by ONE", x.year(9999, 100, 0) + x.year(9999, 100, 1), 100);
        for (int n = 1; n <= 100; n++) due("by TWO", y.year(77, n, 0), pouredByHand(kindsOfYear(77, n), 2));
        due("by TWO", y.year(0, 100, 0), 96);
        due("by TWO", y.year(0, 100, 1), 4);
        y.pour(0);
        due("at a mill at which nothing was poured", y.year(0, 100, 0), 96);
        counts("nothing changed", y, 1, 0, 1, 1, 0, 1, 0);
    }

    private static int[] kindsOfYear(int z, int n) {
        int[] kinds = new int[n];
        for (int k = 0; k < n; k++) {
            java.math.BigInteger x = java.math.BigInteger.valueOf(7919L * z + 6151L * k + 1);
            kinds[k] = x.multiply(x).mod(java.math.BigInteger.valueOf(65521)).intValue() % 5;
        }
        return kinds;
    }

    private static int pouredByHand(int[] kinds, int held) {
        String row = "";
        int[] by = new int[5];
        for (int kind : kinds) {
            if (tail(row, held).indexOf('0' + kind) >= 0) {
                by[kind]++;
                continue;
            }
            row += kind;
            for (int k = 0; k < 5; k++) {
                if (by[k] > 0 && tail(row, held).indexOf('0' + k) < 0) {
                    by[k]--;
                    row += k;
                    k = -1;
                }
            }
        }
        return row.length();
    }

    private static String tail(String row, int n) {
        return row.substring(Math.max(0, row.length() - n));
    }

    private static void keepAndBack() {
        MixedMill x = Check.laid("s0,3,0,0;s1,4,0,9;s0,5,0,0;s1,1,0,0;s2,1,0,0;l1;c7;");
        due("nothing kept", x.back(), NO);
        x.pour(0);
        x.queue(1);
        due("keep", x.keep(), 1);
        counts("keep leaves all", x, 5, 4, 1, 3, 1, 1, 1);
        x.pour(1);
        x.halve(2, 2);
        x.sell(4);
        due("keep again", x.keep(), 2);
        due("keep thrice", x.keep(), FULL);
        x.undo();
        x.undo();
        x.undo();
        x.queue(1);
        due("back to the last", x.back(), 1);
        counts("as kept last", x, 6, 3, 2, 13, 0, 0, 1);
        due("the cost", x.cost(), 7);
        due("sold", x.sack(4, 4), 2);
        due("a size", x.sack(2, 1), 3);
        due("the law holds", x.may(2), 0);
        due("nothing to undo", x.undo(), NO);
        x.halve(2, 1);
        due("a halving costs as told", x.cost(), 14);
        x.queue(2);
        due("back to the first", x.back(), 0);
        counts("as kept first", x, 5, 4, 1, 3, 0, 0, 0);
        due("the cost", x.cost(), 0);
        due("what was poured last", x.may(2), 0);
        due("and nothing ahead of it", x.may(1), 1);
        x.queue(1);
        due("nothing kept any more", x.back(), NO);
        due("NO leaves the queue", x.count(4), 1);
        due("keep after back", x.keep(), 1);
        x.pour(1);
        x.back();
        x.pour(4);
        due("what came after is another way", x.count(3), 4);
        Check.tell(x, "s0,1,0,0;");
        x.keep();
        x.lay();
        due("lay: nothing kept", x.count(6), 0);
        due("lay: nothing to go back to", x.back(), NO);
    }

    private static void count() {
        MixedMill x = Check.laid("s0,3,0,0;s1,4,0,9;s0,5,0,0;s1,1,0,0;");
        x.pour(0);
        x.pour(1);
        x.sell(3);
        x.halve(2, 1);
        x.keep();
        x.queue(2);
        counts("count", x, 5, 2, 2, 13, 1, 4, 1, 36);
        due("count(8)", x.count(8), BAD);
        due("count(-1)", x.count(-1), BAD);
        for (int off : FAR_OFF) due("count far off", x.count(off), BAD);
    }
}
