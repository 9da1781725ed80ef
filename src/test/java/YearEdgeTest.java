import java.math.BigInteger;

/** The edges of section 4 of the document and of promises 24 to 27, each sentence by itself. */
public final class YearEdgeTest {
    private static final int BAD = Story.BAD, NO = Story.NO, FULL = Story.FULL;
    private static final String EIGHT = "s0,9,0,0;s1,2,1,0;s2,1,2,0;s0,1,3,0;s1,1,4,0;s2,1,0,0;s0,1,1,0;s1,1,2,0;";
    private static final String FIVE = "s0,3,0,0;s1,4,0,9;s0,5,0,0;s1,1,0,0;s2,1,0,0;";

    private YearEdgeTest() { }

    public static void main(String[] args) {
        yearByZ0To9999();
        yearOf1To100();
        yearWhatIs0Or1();
        yearIsOfItsDraws();
        yearIsAtAMillAtWhichNothingWasPoured();
        yearByTheLaw();
        keptAre2AtMost();
        keptIsAll();
        keepLeavesAll();
        backIsNoIfNothingIsKept();
        backIsToTheLast();
        backLeavesNoQueueNothingUndone();
        countWhatIs0To7();
        countsFromLeastToMost();
        Check.end();
    }

    // z (0 to 9999) .. BAD
    private static void yearByZ0To9999() {
        Story.of("queue 0").due("year 0 100 0", 100).due("year 9999 1 0", 1).bad("year ? 1 0", -1, 10000);
        Story.laid(EIGHT + "l1;", "pour 0").due("year 0 100 0", 96).due("year 9999 100 0", 99).bad("year ? 100 1", -1, 10000);
    }

    // n (1 to 100) .. BAD
    private static void yearOf1To100() {
        Story.of("queue 0").due("year 5 1 0", 1).due("year 5 1 1", 0).bad("year 5 ? 0", -1, 0, 101);
        Story.of("queue 0").due("year 5 100 0", 100).due("year 5 100 1", 0).bad("year 5 ? 1", -1, 0, 101);
        Story.laid("s0,1,0,0;l1;").due("year 77 100 0", 99).due("year 77 100 1", 1).bad("year 77 ? 1", 0, 101);
    }

    // poured (what = 0), put by (1). BAD.
    private static void yearWhatIs0Or1() {
        Story.of("queue 0").due("year 0 4 0", 3).due("year 0 4 1", 1).bad("year 0 4 ?", -1, 2);
    }

    private static int[] kindsOfYear(int z, int n) {
        int[] kinds = new int[n];
        for (int k = 0; k < n; k++) {
            BigInteger x = BigInteger.valueOf(7919).multiply(BigInteger.valueOf(z))
                    .add(BigInteger.valueOf(6151).multiply(BigInteger.valueOf(k))).add(BigInteger.ONE);
            kinds[k] = x.multiply(x).mod(BigInteger.valueOf(65521)).intValue() % 5;
        }
        return kinds;
    }

    /** What is poured, told as a row of kinds; the last ones of it are those that may not come. */
    private static String rowOfYear(int[] kinds, int held) {
        StringBuilder row = new StringBuilder();
        StringBuilder putBy = new StringBuilder();
        for (int kind : kinds) {
            if (!may(row, kind, held)) {
                putBy.append(kind);
                continue;
            }
            row.append(kind);
            for (int low = lowest(row, putBy, held); low >= 0; low = lowest(row, putBy, held)) {
                row.append(low);
                putBy.deleteCharAt(putBy.indexOf("" + low));
            }
        }
        return row.toString();
    }

    private static boolean may(StringBuilder row, int kind, int held) {
        return row.substring(Math.max(0, row.length() - held)).indexOf('0' + kind) < 0;
    }

    private static int lowest(StringBuilder row, StringBuilder putBy, int held) {
        for (int kind = 0; kind <= 4; kind++) {
            if (putBy.indexOf("" + kind) >= 0 && may(row, kind, held)) return kind;
        }
        return -1;
    }

    // KIND ((x times x) modulo 65521) modulo 5, x being 7919 z, 6151 k and 1 together
    private static void yearIsOfItsDraws() {
        for (int law = 0; law <= 1; law++) {
            for (int z : new int[] {0, 1, 2, 3, 77, 500, 4242, 5000, 8192, 9998, 9999}) {
                MixedMill x = Check.laid("s0,1,0,0;l" + law + ";");
                for (int n = 1; n <= 100; n++) yearIs(x, z, n, law);
            }
            for (int z = 0; z <= 9999; z += 7) yearIs(Check.laid("s0,1,0,0;l" + law + ";"), z, 100, law);
        }
    }

    private static void yearIs(MixedMill x, int z, int n, int law) {
        int poured = rowOfYear(kindsOfYear(z, n), law + 1).length();
        Check.due("year(" + z + ", " + n + ", 0)", x.year(z, n, 0), poured);
        Check.due("year(" + z + ", " + n + ", 1)", x.year(z, n, 1), n - poured);
    }

    // at a mill at which nothing was POURED
    private static void yearIsAtAMillAtWhichNothingWasPoured() {
        // By z = 0 the first kinds are 1, 2, 4, 4, 1, so that kind 1 poured last would put the first one by.
        for (String law : new String[] {"l0;", "l1;"}) {
            Story x = Story.laid("s1,1,0,0;s2,1,0,0;" + law);
            for (Story y : new Story[] {x, x.then("pour 0"), x.then("pour 1"), x.then("pour 0", "pour 1")}) {
                y.due("year 0 1 0", 1).due("year 0 2 0", 2).due("year 0 3 0", 3).due("year 0 4 0", 3).due("year 0 4 1", 1);
            }
        }
    }

    private static void yearByTheLaw() {
        Story.laid("s0,1,0,0;l0;").due("year 0 5 0", 5).due("year 0 10 0", 10).due("year 0 9 1", 1);
        Story.laid("s0,1,0,0;l1;").due("year 0 5 0", 4).due("year 0 10 0", 10).due("year 0 9 1", 2);
    }

    // 2 at most .. FULL.
    private static void keptAre2AtMost() {
        Story x = Story.laid(FIVE, "queue 1").due("keep", 1).then("keep", "pour 0", "queue 1").due("keep", 2);
        x.then("keep", "queue 3").due("keep", FULL).due("count 6", 2);
        x.then("keep", "sell 1").due("keep", FULL);
        x.then("keep", "back").due("keep", 2);
        x.then("keep", "back", "back").due("keep", 1);
        x.then("keep", "lay").due("keep", 1);
    }

    // KEPT are SACKS, how they are, the HOUR, what was POURED last, the cost
    private static void keptIsAll() {
        String[] acts = {"pour 0", "halve 2 2", "pour 1", "sell 3", "pour 4", "halve 2 1", "pour 5"};
        String[] others = {"sell 2", "undo", "undo | undo", "halve 2 1", "pour 2", "pour 3", "queue 2", "sell 2 | sell 3"};
        for (String law : new String[] {"l0;c7;", "l1;c99;"}) {
            Story x = Story.laid(FIVE + law);
            for (String act : acts) {
                // What is gone back to is as it was, but for what could be undone.
                Story there = x.then("keep", "back");
                for (String other : others) x.then("keep", other, "back").same(there);
                x = x.then(act);
            }
        }
        Story halved = Story.laid(FIVE + "c7;", "halve 2 1", "keep", "halve 2 1", "back");
        halved.due("cost", 7).then("halve 2 1").due("cost", 14);
        Story.laid(FIVE + "l1;", "pour 0", "pour 1", "keep", "pour 4", "pour 2", "back").due("may 2", 0).due("may 3", 0).due("may 4", 1);
    }

    // keep changes what is KEPT alone
    private static void keepLeavesAll() {
        Story x = Story.laid(FIVE, "pour 0", "halve 2 1", "queue 1", "queue 4");
        x.then("keep").dues("count", 0, 6, 5, 1, 3, 2, 2, 1).due("undo", 1).due("noQueue", 2).due("stops 1", 14);
        x.then("keep", "undo").due("count 6", 1).due("back", 0);
        x.then("keep", "undo", "back").due("count 0", 6).due("cost", 5);
    }

    // back .. NO.
    private static void backIsNoIfNothingIsKept() {
        Story.of("pour 0", "queue 1").due("back", NO);
        Story.laid(FIVE, "pour 0", "keep", "back", "pour 1", "queue 2").due("back", NO);
        Story.laid(FIVE, "keep", "lay", "queue 2").due("back", NO);
        Story.laid(FIVE, "keep", "keep", "back", "back", "queue 2").due("back", NO);
        Story.laid(FIVE, "keep").due("back", 0);
    }

    // As KEPT last: how many are left
    private static void backIsToTheLast() {
        Story x = Story.laid(FIVE, "pour 0", "keep", "pour 1", "keep", "pour 2");
        x.due("back", 1).then("back").due("count 2", 2).due("count 3", 13).due("back", 0);
        x.then("back", "back").due("count 2", 1).due("count 3", 3).due("back", NO);
        x.then("back", "back").same(Story.laid(FIVE, "pour 0", "keep", "back"));
        x.then("back", "pour 4", "keep", "pour 3", "back").due("count 2", 3).due("count 3", 14).due("back", 0);
    }

    // no QUEUE, nothing UNDONE then
    private static void backLeavesNoQueueNothingUndone() {
        Story x = Story.laid(FIVE, "queue 1", "sell 3", "queue 0", "keep", "queue 1");
        x.due("count 4", 2).due("count 5", 1);
        x.then("back").due("count 4", 0).due("count 5", 0).due("undo", NO).due("noQueue", 0);
        x.then("back", "queue 1").due("undo", NO);
        x.then("back", "pour 0").due("undo", 0).then("undo").due("undo", NO).due("sack 3 4", 2);
    }

    // 0 SACKS, .. 7 bytes of THE TEXT. BAD.
    private static void countWhatIs0To7() {
        Story x = Story.laid(FIVE, "pour 0", "pour 1", "sell 3", "halve 2 1", "keep", "queue 2");
        x.dues("count", 0, 6, 3, 2, 13, 1, 4, 1, 45).bad("count ?", -1, 8);
        Story.of().dues("count", 0, 3, 3, 0, 0, 0, 0, 0, 0).bad("count ?", -1, 8);
    }

    private static void countsFromLeastToMost() {
        Story ten = Story.laid(EIGHT + "c1;", "halve 0 2", "halve 0 1");
        ten.due("count 0", 10).due("count 1", 10).due("count 2", 0).due("count 3", 0).due("count 5", 2);
        Story gone = ten;
        int[] hours = {6, 8, 9, 10, 11, 12, 13, 14, 16, 16};
        for (int i = 0; i < 9; i++) {
            gone = gone.then("pour " + i).due("count 2", i + 1).due("count 1", 9 - i).due("count 3", hours[i]);
            gone.due("count 5", Math.min(8, i + 3));
        }
        gone.due("pour 9", NO).then("sell 9").due("count 1", 0).due("count 2", 9).due("count 0", 10).due("count 5", 8);
        Story.laid("s0,1,0,0;").due("count 0", 1).then("pour 0").due("count 1", 0).due("count 2", 1);
        Story all = Story.laid("s0,2,0,0;s1,2,0,0;s0,1,0,0;s1,1,0,0;s0,1,0,0;s1,1,0,0;s0,1,0,0;s1,1,0,0;",
                "halve 0 1", "halve 1 1", "pour 0", "pour 1", "pour 2", "pour 3", "pour 4", "pour 5", "pour 6", "pour 7");
        all.then("pour 8", "pour 9").due("count 2", 10).due("count 1", 0).due("count 3", 10);
    }
}
