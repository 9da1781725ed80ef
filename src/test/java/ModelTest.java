import java.util.Random;

/** Random runs of calls at MixedMill and at PlainMill: every answer must be the same. */
public final class ModelTest {
    /** An object is used for 512 calls; the dearest step and the look at the end need less than what is left. */
    private static final int CALLS_BEFORE_LAST_STEP = 230;
    private static final int[] FAR_OFF = Story.FAR_OFF;
    private static Random draws;
    private static MixedMill mill;
    private static PlainMill plain;
    private static int run;
    private static int callsMade;
    /** Rows of more sacks than this are too many for PlainMill to try often. */
    private static int triedMost;

    private ModelTest() { }

    public static void main(String[] args) {
        for (run = 0; run < 6000 && Check.wrongSoFar() < 20; run++) {
            draws = new Random(run);
            mill = new MixedMill();
            plain = new PlainMill();
            callsMade = 0;
            triedMost = run % 400 == 0 ? 10 : 7;
            oneRun();
            Check.isTrue("512 calls at most", callsMade <= 512);
        }
        tenSacks("s0,3,0,0;s0,2,1,40;s1,5,1,2;s2,1,2,9;s0,4,3,0;s1,2,4,0;s3,6,2,20;s0,1,0,0;", 2, 6);
        tenSacks("s0,3,0,7;s1,9,1,4;s2,5,1,2;s3,1,2,9;s4,4,3,0;s0,2,4,0;s1,6,2,20;s2,1,0,0;l1;", 1, 6);
        tenSacks("s0,9,0,30;s0,9,1,0;s0,9,2,0;s0,9,3,0;s0,2,0,0;s1,9,4,60;s1,2,4,0;s1,9,0,0;", 5, 7);
        Check.end();
    }

    /** All ten wait, and are poured from the first on: too dear for PlainMill to be asked all. */
    private static void tenSacks(String text, int halved, int alsoHalved) {
        mill = new MixedMill();
        plain = new PlainMill();
        draws = new Random(1);
        writeAll(new StringBuilder(text));
        same("lay()", mill.lay(), plain.lay());
        same("halve()", mill.halve(halved, 1), plain.halve(halved, 1));
        same("halve()", mill.halve(alsoHalved, 1), plain.halve(alsoHalved, 1));
        for (int poured = 0; poured < 2; poured++) {
            same("orders()", mill.orders(), plain.orders());
            same("most(-2)", mill.most(-2), plain.most(-2));
            same("most(9)", mill.most(9), plain.most(9));
            same("twoMills(0)", mill.twoMills(0), plain.twoMills(0));
            same("twoMills(1)", mill.twoMills(1), plain.twoMills(1));
            same("pour(0)", mill.pour(0), plain.pour(0));
        }
    }

    private static void oneRun() {
        if (draws.nextInt(8) != 0) newText();
        while (callsMade < CALLS_BEFORE_LAST_STEP) {
            int what = draws.nextInt(41);
            if (what < 3) {
                newText();
            } else if (what < 13) {
                int i = somethingNear(10);
                same("pour(" + i + ")", mill.pour(i), plain.pour(i));
            } else if (what < 18) {
                int i = somethingNear(10);
                int s = draws.nextInt(4) == 0 ? somethingNear(9) : 1 + draws.nextInt(3);
                same("halve(" + i + ", " + s + ")", mill.halve(i, s), plain.halve(i, s));
            } else if (what < 21) {
                int i = somethingNear(10);
                same("sell(" + i + ")", mill.sell(i), plain.sell(i));
            } else if (what < 25) {
                same("undo()", mill.undo(), plain.undo());
            } else if (what < 34) {
                int i = somethingNear(10);
                same("queue(" + i + ")", mill.queue(i), plain.queue(i));
            } else if (what == 34) {
                same("noQueue()", mill.noQueue(), plain.noQueue());
            } else if (what < 37) {
                same("keep()", mill.keep(), plain.keep());
            } else if (what == 37) {
                same("back()", mill.back(), plain.back());
            } else if (what == 38) {
                int n = somethingNear(8);
                long v = draws.nextLong();
                same("write(" + n + ", " + v + ")", mill.write(n, v), plain.write(n, v));
            } else {
                lookAhead();
            }
            lookAtSome();
        }
        lookAtAll();
    }

    private static void same(String call, long got, long want) {
        callsMade++;
        Check.due("run " + run + ": " + call, got, want);
    }

    private static int somethingNear(int n) {
        if (draws.nextInt(40) == 0) return draws.nextBoolean() ? draws.nextInt() : FAR_OFF[draws.nextInt(FAR_OFF.length)];
        return draws.nextInt(n + 2) - 1;
    }

    private static void newText() {
        same("wipe()", mill.wipe(), plain.wipe());
        StringBuilder text = new StringBuilder();
        int sacks = draws.nextInt(12) == 0 ? 9 : draws.nextInt(9);
        int kinds = 1 + draws.nextInt(5);
        int latest = draws.nextInt(3) == 0 ? 99 : 12;
        for (int s = 0; s < sacks; s++) {
            text.append('s').append(draws.nextInt(kinds)).append(',').append(1 + draws.nextInt(9)).append(',')
                    .append(draws.nextInt(5)).append(',').append(draws.nextInt(latest + 1)).append(';');
            if (draws.nextInt(8) == 0) text.append('l').append(draws.nextInt(2)).append(';');
            if (draws.nextInt(8) == 0) text.append('c').append(draws.nextInt(100)).append(';');
        }
        if (draws.nextBoolean()) text.append("l1;");
        if (text.length() > 0 && draws.nextInt(4) == 0) {
            String odd = ";,slc0123456789x ";
            char c = draws.nextInt(6) == 0 ? (char) draws.nextInt(256) : odd.charAt(draws.nextInt(odd.length()));
            int at = draws.nextInt(text.length());
            if (draws.nextBoolean()) text.setCharAt(at, c); else text.insert(at, c);
        }
        if (text.length() > 0 && draws.nextInt(8) == 0) text.deleteCharAt(draws.nextInt(text.length()));
        writeAll(text);
        same("fault() of " + text, mill.fault(), plain.fault());
        same("lay() of " + text, mill.lay(), plain.lay());
    }

    private static void writeAll(StringBuilder text) {
        int from = 0;
        while (from < text.length()) {
            int n = Math.min(1 + draws.nextInt(8), text.length() - from);
            // What stands above the bytes to be written must not matter.
            long v = draws.nextLong();
            for (int p = 0; p < n; p++) v = v << 8 | text.charAt(from + p);
            same("write(" + n + ", " + v + ")", mill.write(n, v), plain.write(n, v));
            from += n;
        }
    }

    private static void lookAtSome() {
        int i = somethingNear(10);
        int w = somethingNear(5);
        same("sack(" + i + ", " + w + ")", mill.sack(i, w), plain.sack(i, w));
        same("may(" + i + ")", mill.may(i), plain.may(i));
        same("count(" + i + ")", mill.count(i), plain.count(i));
        same("stops(" + w + ")", mill.stops(w), plain.stops(w));
        same("cost()", mill.cost(), plain.cost());
    }

    private static void lookAtAll() {
        for (int i = -1; i <= 10; i++) {
            for (int w = -1; w <= 5; w++) same("sack(" + i + ", " + w + ")", mill.sack(i, w), plain.sack(i, w));
            same("may(" + i + ")", mill.may(i), plain.may(i));
        }
        for (int w = -1; w <= 8; w++) same("count(" + w + ")", mill.count(w), plain.count(w));
        for (int w = -1; w <= 3; w++) same("stops(" + w + ")", mill.stops(w), plain.stops(w));
        same("cost()", mill.cost(), plain.cost());
    }

    private static void lookAhead() {
        if (plain.count(1) > triedMost) return;
        same("orders()", mill.orders(), plain.orders());
        for (int i = -3; i <= 10; i++) same("most(" + i + ")", mill.most(i), plain.most(i));
        same("halvings()", mill.halvings(), plain.halvings());
        for (int w = -1; w <= 2; w++) same("twoMills(" + w + ")", mill.twoMills(w), plain.twoMills(w));
        int z = somethingNear(10000);
        int n = somethingNear(101);
        for (int w = -1; w <= 2; w++) same("year(" + z + ", " + n + ")", mill.year(z, n, w), plain.year(z, n, w));
        if (plain.count(1) > 8) return;
        for (int k = -2; k <= 5; k++) {
            same("more(" + k + ")", mill.more(k), plain.more(k));
            same("lacks(" + k + ")", mill.lacks(k), plain.lacks(k));
            same("together(" + k + ")", mill.together(k), plain.together(k));
            same("grows(" + k + ")", mill.grows(k), plain.grows(k));
        }
    }
}
