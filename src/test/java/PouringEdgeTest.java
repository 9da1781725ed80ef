import java.util.Arrays;

/** The edges of section 2 of the document and of promises 7 to 15, each sentence by itself. */
public final class PouringEdgeTest {
    private static final int BAD = Story.BAD, NO = Story.NO, FULL = Story.FULL, NONE = Story.NONE;
    private static final String FIVE = "s0,4,0,0;s1,3,1,2;s0,5,2,9;s2,1,3,0;s1,2,4,0;";
    private static final String EIGHT = "s0,9,0,0;s1,2,1,0;s2,1,2,0;s0,1,3,0;s1,1,4,0;s2,1,0,0;s0,1,1,0;s1,1,2,0;";

    private PouringEdgeTest() { }

    public static void main(String[] args) {
        mayIsOfASackThatIs();
        mayIsOfASackThatWaits();
        mayByOne();
        mayByTwo();
        pourIsOfASackThatIs();
        pourIsOfASackThatWaitsAndMay();
        pouringTakesItsSizeFromTheLater();
        pouringIsFrom0AtFirst();
        halveIsOfASackThatIsBy1To8();
        halveIsOfASackThatWaits();
        halvedIsLessThanAll();
        halvedIsANewSackBehindTheLast();
        sacksAre10InAllAtMost();
        halveRefusesByTheFirst();
        sellIsOfASackThatIs();
        sellIsOfASackThatWaits();
        soldIsNotPoured();
        undoneIsTheLatest();
        nothingToUndoIsNo();
        theLast8CanBeUndone();
        undoTellsHowManyMore();
        costLeavesOutThoseUndone();
        costAtItsLimits();
        queueIsOfASackThatIs();
        queueIsOfSacksThatWait();
        queueHasEachOnce();
        queueHolds10();
        queueIsEmptyAsSoonAs();
        queueIsLeftByAllElse();
        noQueueTellsHowMany();
        stopsWhatIs0To2();
        stopsAtTheFirstThatMayNot();
        stopsIsFromNowOn();
        endsAheadOfTheStop();
        breadIsThreeInARow();
        Check.end();
    }

    // may .. BAD
    private static void mayIsOfASackThatIs() {
        Story.of().due("may 0", 1).due("may 2", 1).bad("may ?", -1, 3, 10);
        Story.laid("s0,1,0,0;").due("may 0", 1).bad("may ?", -1, 1);
        Story.laid(EIGHT).due("may 7", 1).bad("may ?", 8);
        Story.laid(EIGHT, "halve 0 1", "halve 0 1").due("may 9", 1).bad("may ?", 10);
        Story.of("pour 0", "pour 1", "pour 2").bad("may ?", -1, 3);
    }

    // may .. NO: it does not wait.
    private static void mayIsOfASackThatWaits() {
        Story.laid(FIVE, "pour 0").due("may 0", NO).due("may 1", 1).due("may 2", 0);
        Story.laid(FIVE, "sell 0").due("may 0", NO).due("may 2", 1);
        Story.laid(FIVE, "sell 0", "undo").due("may 0", 1);
        Story.laid(FIVE, "pour 0", "undo").due("may 0", 1).due("may 2", 1);
    }

    // A SACK MAY be poured by ONE, if its KIND is not that of the one POURED last
    private static void mayByOne() {
        Story x = Story.laid("s0,1,0,0;s1,1,0,0;s0,1,0,0;s1,1,0,0;s2,1,0,0;");
        x.dues("may", 0, 1, 1, 1, 1, 1);
        x.then("pour 0").dues("may", 0, NO, 1, 0, 1, 1);
        x.then("pour 0", "pour 1").dues("may", 0, NO, NO, 1, 0, 1);
        x.then("pour 0", "pour 4").dues("may", 0, NO, 1, 1, 1, NO);
        x.then("pour 0", "pour 1", "pour 2").dues("may", 0, NO, NO, NO, 1, 1);
    }

    // by TWO, if it is neither that nor that of the one POURED ahead of that one
    private static void mayByTwo() {
        Story x = Story.laid("s0,1,0,0;s1,1,0,0;s0,1,0,0;s1,1,0,0;s2,1,0,0;s3,1,0,0;l1;");
        x.dues("may", 0, 1, 1, 1, 1, 1, 1);
        x.then("pour 0").dues("may", 0, NO, 1, 0, 1, 1, 1);
        x.then("pour 0", "pour 1").dues("may", 0, NO, NO, 0, 0, 1, 1);
        x.then("pour 0", "pour 1", "pour 4").dues("may", 0, NO, NO, 1, 0, NO, 1);
        x.then("pour 0", "pour 1", "pour 4", "pour 5").dues("may", 0, NO, NO, 1, 1, NO, NO);
        x.then("pour 0", "sell 1").dues("may", 0, NO, NO, 0, 1, 1, 1);
    }

    // pour .. BAD
    private static void pourIsOfASackThatIs() {
        Story.of().due("pour 0", 2).due("pour 2", 6).bad("pour ?", -1, 3, 10);
        Story.laid(EIGHT).due("pour 7", 1).bad("pour ?", 8);
        Story.laid(EIGHT, "halve 0 1", "halve 0 1", "queue 3").due("pour 9", 1).bad("pour ?", 10);
    }

    // One that waits can be POURED, if it MAY .. NO.
    private static void pourIsOfASackThatWaitsAndMay() {
        Story x = Story.laid(FIVE, "keep", "halve 2 1", "pour 0", "queue 1", "queue 3");
        x.due("pour 0", NO).due("pour 2", NO).due("pour 5", NO).due("pour 1", 7);
        x.then("sell 1").due("pour 1", NO);
        x.then("pour 1").due("pour 1", NO).due("pour 4", NO).due("pour 2", 13);
        Story two = Story.laid(FIVE + "l1;", "pour 0", "pour 1", "queue 3");
        two.due("pour 2", NO).due("pour 4", NO).due("pour 3", 8);
        two.then("pour 3").due("pour 2", 14).due("pour 4", NO);
        x.then("pour 1").dues("count", 0, 6, 4, 2, 7, 0, 3, 1);
    }

    // as many HOURS as its SIZE, from when the last one has been POURED .. or from when it comes, if that is later
    private static void pouringTakesItsSizeFromTheLater() {
        for (int comes = 0; comes <= 99; comes++) {
            Story x = Story.laid("s0,7,0,0;s1,4,0," + comes + ";", "pour 0");
            x.due("pour 1", comes <= 7 ? 11 : comes + 4);
            x.then("pour 1").due("count 3", comes <= 7 ? 11 : comes + 4);
        }
        for (int size = 1; size <= 9; size++) {
            Story.laid("s0,1,0,50;s1," + size + ",0,0;", "pour 0").due("pour 1", 51 + size);
            Story.laid("s0,1,0,50;s1," + size + ",0,52;", "pour 0").due("pour 1", 52 + size);
        }
        Story late = Story.laid("s0,9,0,99;s1,9,0,99;s0,9,0,99;s1,9,0,99;s0,9,0,99;s1,9,0,99;s0,9,0,99;s1,9,0,99;",
                "pour 0", "pour 1", "pour 2", "pour 3", "pour 4", "pour 5", "pour 6");
        late.due("count 3", 162).due("pour 7", 171);
    }

    // (0 at first)
    private static void pouringIsFrom0AtFirst() {
        Story.laid("s0,1,0,0;").due("count 3", 0).due("pour 0", 1);
        Story.laid("s0,9,0,0;").due("pour 0", 9);
        Story.laid("s0,1,0,1;").due("pour 0", 2);
        Story.laid("s0,9,0,99;").due("pour 0", 108);
        Story.laid("s0,9,0,99;s1,1,0,0;", "pour 0", "undo").due("pour 1", 1);
    }

    // halve .. BAD (s 1 to 8)
    private static void halveIsOfASackThatIsBy1To8() {
        Story x = Story.laid(FIVE + "s3,9,0,0;c7;", "queue 0", "pour 3", "queue 5");
        x.due("halve 5 1", 6).due("halve 5 8", 6).bad("halve 5 ?", 0, 9, 10, -1, -8);
        x.due("halve 0 1", 6).bad("halve ? 1", -1, 6, 10).bad("halve ? 8", -1, 6).bad("halve ? 9", 0, 6);
        x.bad("halve 3 ?", 0, 9);
        Story.laid(EIGHT, "halve 0 1").due("halve 8 1", NO).bad("halve ? 1", 9);
        Story.laid(EIGHT, "halve 0 2").due("halve 8 1", 9);
    }

    // halve .. NO: it does not wait
    private static void halveIsOfASackThatWaits() {
        Story x = Story.laid(FIVE, "queue 1");
        x.due("halve 0 1", 5);
        x.then("pour 0", "queue 1").due("halve 0 1", NO).due("halve 2 1", 5);
        x.then("sell 0", "queue 1").due("halve 0 1", NO).due("halve 2 1", 5);
        x.then("sell 0", "undo").due("halve 0 1", 5);
    }

    // s of its SIZE, less than all .. NO: .. its SIZE is not above s
    private static void halvedIsLessThanAll() {
        for (int size = 1; size <= 9; size++) {
            Story x = Story.laid("s1," + size + ",2,34;", "queue 0");
            for (int s = 1; s <= 8; s++) x.due("halve 0 " + s, s < size ? 1 : NO);
            for (int s = 1; s < size; s++) {
                Story halved = x.then("halve 0 " + s);
                halved.due("sack 0 1", size - s).due("sack 1 1", s);
            }
        }
        Story twice = Story.laid("s1,3,2,34;", "halve 0 1");
        twice.due("halve 1 1", NO).due("halve 0 2", NO).due("halve 0 1", 2);
        twice.then("halve 0 1").due("halve 0 1", NO);
    }

    // become a new SACK, behind the last one, of the same KIND, OWNER and HOUR
    private static void halvedIsANewSackBehindTheLast() {
        Story x = Story.laid("s3,9,2,44;s1,1,0,0;c7;", "halve 0 4");
        x.due("sack 2 0", 3).due("sack 2 1", 4).due("sack 2 2", 2).due("sack 2 3", 44).due("sack 2 4", 0);
        x.due("sack 0 0", 3).due("sack 0 1", 5).due("sack 0 2", 2).due("sack 0 3", 44).due("sack 0 4", 0);
        x.due("sack 1 1", 1).dues("count", 0, 3, 3, 0, 0, 0, 1, 0);
        Story y = Story.laid("s3,9,2,44;s1,1,0,0;c7;", "pour 1", "halve 0 4", "pour 2");
        y.due("sack 2 4", 1).due("sack 0 4", 0).due("halve 0 1", 3).due("pour 0", NO);
        y.then("undo", "undo").same(Story.laid("s3,9,2,44;s1,1,0,0;c7;", "pour 1"));
    }

    // (10 SACKS in all at most) .. FULL.
    private static void sacksAre10InAllAtMost() {
        Story eight = Story.laid(EIGHT, "keep");
        eight.due("halve 0 1", 8);
        Story nine = eight.then("halve 0 1", "queue 2");
        nine.due("halve 0 1", 9);
        Story ten = nine.then("halve 0 1", "queue 9");
        ten.due("count 0", 10).due("count 1", 10).due("halve 0 1", FULL).due("halve 1 1", FULL);
        ten.then("undo").due("halve 0 1", 9);
        ten.then("back").due("halve 0 1", 8);
        ten.then("sell 2", "pour 3").due("count 1", 8).due("halve 0 1", FULL);
        ten.then("sell 9", "sell 8").due("halve 0 1", FULL);
        Story one = Story.laid("s0,9,0,0;s1,9,0,0;");
        for (int n = 2; n < 10; n++) {
            String halving = "halve " + n % 2 + " 1";
            one = one.due(halving, n).then(halving);
        }
        one.due("halve 0 1", FULL).due("halve 1 1", FULL);
    }

    // BAD .. NO .. FULL. Of several the first
    private static void halveRefusesByTheFirst() {
        Story ten = Story.laid(EIGHT, "halve 0 1", "halve 0 1", "sell 0", "queue 1");
        ten.due("halve 1 1", FULL).due("halve 1 2", NO).due("halve 0 1", NO).due("halve 2 1", NO);
        ten.due("halve 1 9", BAD).due("halve 0 0", BAD).due("halve 10 1", BAD).due("halve -1 1", BAD);
    }

    // sell .. BAD
    private static void sellIsOfASackThatIs() {
        Story.of("queue 0").due("sell 0", 2).due("sell 2", 1).bad("sell ?", -1, 3, 10);
        Story.laid(EIGHT, "halve 0 1", "halve 0 2").due("sell 9", 2).bad("sell ?", 10);
        Story.laid(EIGHT).due("sell 7", 1).bad("sell ?", 8);
    }

    // SOLD: its SIZE. .. NO: it does not wait.
    private static void sellIsOfASackThatWaits() {
        Story x = Story.laid(FIVE, "queue 1");
        for (int i = 0; i < 5; i++) x.due("sell " + i, new int[] {4, 3, 5, 1, 2}[i]);
        x.then("sell 0", "queue 1").due("sell 0", NO).due("sell 1", 3);
        x.then("pour 0", "queue 1").due("sell 0", NO).due("sell 2", 5);
        x.then("sell 0", "undo").due("sell 0", 4);
        x.then("halve 2 3").due("sell 2", 2).due("sell 5", 3);
    }

    private static void soldIsNotPoured() {
        Story x = Story.laid(FIVE, "sell 0");
        x.dues("count", 0, 5, 4, 0, 0, 0, 1).due("may 2", 1).due("sack 0 4", 2);
        x.then("pour 1", "sell 4").dues("count", 0, 5, 2, 1, 5, 0, 3).due("may 2", 1).due("may 4", NO);
        x.then("sell 1", "sell 2", "sell 3", "sell 4").dues("count", 0, 5, 0, 0, 0, 0, 5);
    }

    // UNDONE is the latest of these
    private static void undoneIsTheLatest() {
        Story x = Story.laid(FIVE + "l1;c9;", "pour 0", "halve 2 2", "keep");
        for (String act : new String[] {"pour 1", "pour 3", "halve 1 2", "halve 5 1", "sell 1", "sell 5"}) {
            x.then(act, "undo").same(x);
            x.then("queue 1", act, "undo").same(x);
            x.then(act, "sell 4", "undo").same(x.then(act));
        }
        Story.laid(FIVE, "pour 0", "halve 2 2", "undo").same(Story.laid(FIVE, "pour 0"));
        Story.laid(FIVE, "pour 0", "halve 2 2", "undo", "undo").same(Story.laid(FIVE));
    }

    // undo .. NO.
    private static void nothingToUndoIsNo() {
        Story.of("queue 0", "queue 1").due("undo", NO);
        Story.laid(FIVE, "keep", "queue 1").due("undo", NO);
        Story.laid(FIVE, "pour 0", "undo", "queue 1").due("undo", NO);
        Story.laid(FIVE, "pour 0", "lay", "queue 1").due("undo", NO);
        Story.laid(FIVE, "pour 0", "keep", "back", "queue 1").due("undo", NO);
        Story.laid(FIVE, "pour 0").due("undo", 0);
    }

    // (the last 8 can be)
    private static void theLast8CanBeUndone() {
        String[] acts = {"pour 0", "halve 1 1", "pour 1", "pour 2", "sell 3", "pour 4", "pour 5", "sell 6", "pour 7", "sell 8"};
        for (int done = 1; done <= acts.length; done++) {
            Story x = Story.laid(EIGHT, Arrays.copyOf(acts, done));
            x.due("count 5", Math.min(done, 8)).due("undo", Math.min(done, 8) - 1);
            String undone = " | undo".repeat(Math.min(done, 8)).substring(3);
            Story first = Story.laid(EIGHT, Arrays.copyOf(acts, Math.max(0, done - 8)));
            x.then(undone, "queue 5").due("undo", NO);
            x.then(undone).same(first.then("keep", "back"));
            eachUndone(x, acts, done);
        }
    }

    /** Each of the last 8 is undone by itself; what can still be undone is left out by going back. */
    private static void eachUndone(Story x, String[] acts, int done) {
        Story y = x;
        for (int undone = 1; undone <= Math.min(done, 8); undone++) {
            y = y.then("undo");
            y.then("keep", "back").same(Story.laid(EIGHT, Arrays.copyOf(acts, done - undone)).then("keep", "back"));
        }
    }

    // undo: how many more can be
    private static void undoTellsHowManyMore() {
        Story x = Story.laid(EIGHT, "sell 0", "sell 1", "sell 2", "sell 3", "sell 4", "sell 5", "sell 6", "sell 7");
        for (int left = 7; left >= 0; left--) x = x.due("count 5", left + 1).due("undo", left).then("undo");
        x.due("count 5", 0).due("undo", NO).then("sell 3").due("undo", 0);
        Story again = Story.laid(EIGHT, "sell 0", "sell 1", "undo", "sell 2");
        again.due("undo", 1).then("undo").due("sack 1 4", 0).due("sack 2 4", 0).due("sack 0 4", 2);
    }

    // What halving has cost in all (those UNDONE left out).
    private static void costLeavesOutThoseUndone() {
        Story x = Story.laid(FIVE + "c7;").due("cost", 0).then("halve 0 1").due("cost", 7).then("halve 2 1");
        x.due("cost", 14).then("undo").due("cost", 7).then("undo").due("cost", 0);
        x.then("pour 0", "sell 1").due("cost", 14).then("undo", "undo", "undo").due("cost", 7);
        x.then("halve 3 1").due("cost", 14);
        x.then("halve 3 9").due("cost", 14);
        x.then("sell 5").due("cost", 14);
    }

    private static void costAtItsLimits() {
        Story dear = Story.laid("s0,9,0,0;s1,9,0,0;c99;");
        Story free = Story.laid("s0,9,0,0;s1,9,0,0;c0;");
        for (int n = 2; n < 10; n++) {
            dear = dear.then("halve " + n % 2 + " 1").due("cost", 99 * (n - 1));
            free = free.then("halve " + n % 2 + " 1").due("cost", 0);
        }
        dear.then("halve 0 1").due("cost", 792);
    }

    // queue .. BAD
    private static void queueIsOfASackThatIs() {
        Story.of().due("queue 0", 1).due("queue 2", 1).bad("queue ?", -1, 3, 10);
        Story.laid(EIGHT, "queue 3").due("queue 7", 2).bad("queue ?", 8, -1);
        Story.laid(EIGHT, "halve 0 1", "halve 0 1", "queue 3").due("queue 9", 2).bad("queue ?", 10);
    }

    // queue .. NO: it does not wait
    private static void queueIsOfSacksThatWait() {
        Story x = Story.laid(FIVE, "pour 0", "sell 1", "queue 4");
        x.due("queue 0", NO).due("queue 1", NO).due("queue 2", 2).due("queue 3", 2);
        Story.laid(FIVE, "pour 0", "undo").due("queue 0", 1);
        Story.laid(FIVE, "sell 1", "undo").due("queue 1", 1);
        x.then("keep", "sell 4", "back").due("queue 4", 1);
    }

    // each once .. NO: .. it is in it
    private static void queueHasEachOnce() {
        Story x = Story.laid(FIVE, "queue 2", "queue 0", "queue 1");
        x.due("queue 2", NO).due("queue 0", NO).due("queue 1", NO).due("queue 3", 4);
        x.then("noQueue").due("queue 2", 1);
        x.then("halve 2 1").due("queue 5", 4).due("queue 2", NO);
        x.then("halve 2 1", "queue 5").due("queue 5", NO);
    }

    private static void queueHolds10() {
        Story x = Story.laid(EIGHT, "halve 0 1", "halve 0 1");
        for (int i = 9; i >= 0; i--) x = x.due("queue " + i, 10 - i).then("queue " + i);
        for (int i = 0; i <= 9; i++) x.due("queue " + i, NO);
        x.due("count 4", 10).due("noQueue", 10).bad("queue ?", -1, 10);
    }

    // it is empty as soon as one is POURED, SOLD, or something UNDONE
    private static void queueIsEmptyAsSoonAs() {
        Story x = Story.laid(FIVE, "halve 0 1", "keep", "queue 1", "queue 2", "queue 3");
        x.due("count 4", 3);
        for (String act : new String[] {"pour 0", "pour 3", "sell 0", "sell 3", "undo", "back", "lay", "noQueue"}) {
            x.then(act).due("count 4", 0).due("noQueue", 0).due("stops 0", NONE).due("stops 2", 0);
            x.then(act).due("queue 1", 1);
        }
    }

    private static void queueIsLeftByAllElse() {
        Story x = Story.laid(FIVE, "pour 0", "sell 3", "keep", "queue 1", "queue 4");
        for (String call : new String[] {"halve 2 1", "halve 1 1", "keep", "wipe", "add x", "told ?", "fault"}) {
            x.then(call).due("count 4", 2).due("stops 0", 1).due("queue 2", 3);
        }
        for (String call : new String[] {"pour 0", "pour 2", "pour 9", "sell 3", "sell -1", "halve 0 1", "queue 1", "queue 0"}) {
            x.then(call).same(x);
        }
        Story.laid(FIVE, "queue 1", "undo").due("count 4", 1);
        Story.laid(FIVE, "queue 1", "back").due("count 4", 1);
        Story.laid(FIVE, "queue 1", "add ?", "lay").due("count 4", 1);
    }

    // No QUEUE: how many it had.
    private static void noQueueTellsHowMany() {
        Story x = Story.laid(FIVE);
        x.due("noQueue", 0).then("noQueue").same(x);
        for (int n = 0; n < 5; n++) x = x.due("noQueue", n).then("queue " + n);
        x.then("noQueue").same(Story.laid(FIVE)).due("noQueue", 0);
        Story.laid(FIVE, "pour 0", "queue 1", "noQueue").same(Story.laid(FIVE, "pour 0"));
    }

    // the place (what = 0; NONE), ENDS (1), BREAD (2). BAD.
    private static void stopsWhatIs0To2() {
        Story.of().due("stops 0", NONE).due("stops 1", 0).due("stops 2", 0).bad("stops ?", -1, 3);
        Story.of("queue 0", "queue 2").due("stops 0", 1).due("stops 1", 2).due("stops 2", 0).bad("stops ?", -1, 3);
    }

    // It STOPS at the first that MAY not be poured, when all ahead of it have been, in turn .. none.
    private static void stopsAtTheFirstThatMayNot() {
        String kinds = "s0,1,0,0;s0,1,0,0;s1,1,0,0;s1,1,0,0;s2,1,0,0;s2,1,0,0;";
        stopsOf(kinds, "", NONE);
        stopsOf(kinds, "0", NONE);
        stopsOf(kinds, "01", 1);
        stopsOf(kinds, "02", NONE);
        stopsOf(kinds, "021", NONE);
        stopsOf(kinds, "023", 2);
        stopsOf(kinds, "02143", NONE);
        stopsOf(kinds, "021435", NONE);
        stopsOf(kinds, "021345", 5);
        stopsOf(kinds, "012345", 1);
        stopsOf(kinds, "023145", 2);
        String two = kinds + "l1;";
        stopsOf(two, "0", NONE);
        stopsOf(two, "01", 1);
        stopsOf(two, "02", NONE);
        stopsOf(two, "021", 2);
        stopsOf(two, "023", 2);
        stopsOf(two, "0241", NONE);
        stopsOf(two, "0243", 3);
        stopsOf(two, "024135", NONE);
        stopsOf(two, "024153", 4);
    }

    private static void stopsOf(String text, String line, int want) {
        Story x = Story.laid(text);
        for (char i : line.toCharArray()) x = x.then("queue " + i);
        x.due("stops 0", want);
    }

    // from now on
    private static void stopsIsFromNowOn() {
        String kinds = "s0,1,0,0;s0,1,0,0;s1,1,0,0;s1,1,0,0;s2,1,0,0;s2,1,0,0;";
        Story one = Story.laid(kinds, "pour 0");
        one.then("queue 1").due("stops 0", 0).due("stops 1", 1);
        one.then("queue 2", "queue 1").due("stops 0", NONE).due("stops 1", 3);
        one.then("pour 2", "queue 1").due("stops 0", NONE).due("stops 1", 3);
        Story two = Story.laid(kinds + "l1;", "pour 0");
        two.then("queue 1").due("stops 0", 0).due("stops 1", 1);
        two.then("queue 2", "queue 1").due("stops 0", 1).due("stops 1", 2);
        two.then("pour 2", "queue 1").due("stops 0", 0).due("stops 1", 2);
        two.then("pour 2", "queue 4", "queue 1").due("stops 0", NONE).due("stops 1", 4);
        two.then("pour 2", "pour 4", "queue 1").due("stops 0", NONE).due("stops 1", 4);
        two.then("pour 2", "pour 4", "queue 3").due("stops 0", 0).due("stops 1", 3);
    }

    // ENDS: the HOUR when all ahead of that one (all, if none) have been.
    private static void endsAheadOfTheStop() {
        Story x = Story.laid("s0,3,0,5;s1,2,0,20;s2,4,0,0;s2,9,0,0;s0,1,0,0;");
        x.due("stops 1", 0);
        x.then("queue 0").due("stops 1", 8);
        x.then("queue 0", "queue 1").due("stops 1", 22);
        x.then("queue 0", "queue 1", "queue 2").due("stops 1", 26);
        x.then("queue 0", "queue 1", "queue 2", "queue 3").due("stops 0", 3).due("stops 1", 26);
        x.then("queue 0", "queue 1", "queue 2", "queue 3", "queue 4").due("stops 0", 3).due("stops 1", 26);
        x.then("queue 0", "queue 4", "queue 1").due("stops 0", 1).due("stops 1", 8);
        x.then("pour 0").due("stops 1", 8).then("queue 4").due("stops 0", 0).due("stops 1", 8);
        x.then("pour 0", "queue 2").due("stops 1", 12).then("halve 2 3").due("stops 1", 9);
        x.then("pour 2", "queue 0").due("stops 1", 8);
        x.then("pour 2", "pour 4").due("stops 1", 5);
        Story.laid("s0,5,0,0;s1,1,0,5;s1,1,0,6;", "queue 0", "queue 1").due("stops 1", 6);
        Story.laid("s0,5,0,0;s1,1,0,5;s1,1,0,6;", "queue 0", "queue 2").due("stops 1", 7);
    }

    // BREAD: at how many places of it three in a row are of three unlike KINDS.
    private static void breadIsThreeInARow() {
        breadOf("", 0);
        breadOf("0", 0);
        breadOf("02", 0);
        breadOf("024", 1);
        breadOf("021", 0);
        breadOf("012", 0);
        breadOf("023", 0);
        breadOf("0241", 2);
        breadOf("02413", 3);
        breadOf("024135", 4);
        breadOf("02146", 2);
        breadOf("024671", 4);
        breadOf("012346", 1);
        breadOf("0123467", 2);
    }

    /** The kinds of the sacks 0 to 7 are 0, 0, 1, 1, 2, 2, 3, 4. */
    private static void breadOf(String line, int want) {
        for (String law : new String[] {"l0;", "l1;"}) {
            Story x = Story.laid("s0,1,0,0;s0,1,0,0;s1,1,0,0;s1,1,0,0;s2,1,0,0;s2,1,0,0;s3,1,0,0;s4,1,0,0;" + law);
            for (char i : line.toCharArray()) x = x.then("queue " + i);
            x.due("stops 2", want);
        }
    }
}
