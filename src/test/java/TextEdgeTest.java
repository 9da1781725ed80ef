/** The edges of section 1 of the document and of promises 1 to 6, each sentence by itself. */
public final class TextEdgeTest {
    private static final int BAD = Story.BAD, NO = Story.NO, FULL = Story.FULL, NONE = Story.NONE;
    private static final String SACK = "s0,1,0,0;";
    /** A mill at which everything is in use: poured, sold, halved, kept, undone, queued, told. */
    private static final Story BUSY = Story.laid("s0,4,0,0;s1,3,1,2;s0,5,2,9;s2,1,3,0;s1,2,4,0;l1;c7;",
            "pour 0", "keep", "sell 3", "halve 2 2", "queue 4", "queue 1", "told s3,2,1,4;c8;");

    private TextEdgeTest() { }

    public static void main(String[] args) {
        newObject();
        textIsBytes300AtMost();
        writeTakesOneToEightBytes();
        writeTakesTheHighestFirst();
        wipeEmptiesTheText();
        itemsStandOneBehindTheOther();
        eachItemIsALetter();
        numbersHaveOneOrTwoFigures();
        numbersArePartedByCommas();
        semicolonBehindTheLastNumberToo();
        everyByteInEveryPlace();
        kindIs0To4();
        sizeIs1To9();
        ownerIs0To4();
        hourIs0To99();
        sacksAre8AtMost();
        lawIs0Or1();
        lawIs0Without();
        theLastLawCounts();
        costIs0To99();
        costIs5Without();
        theLastCostCounts();
        faultIsThePlaceOfTheItem();
        faultIsTheFirst();
        laidIsWithoutFault();
        laidIsOfASackAtLeast();
        layMakesAllNew();
        sackIsOneThatIs();
        sackWhatIs0To4();
        Check.end();
    }

    private static String times(int n, String text) {
        return text.repeat(Math.max(n, 0));
    }

    /** The place of the FAULT, which is NO to lay; without one it is laid, of as many sacks as are told. */
    private static void faultOf(String text, int want) {
        Story told = Story.of("told " + text).due("fault", want);
        long sacks = text.chars().filter(c -> c == 's').count();
        told.due("lay", want != NONE || sacks == 0 ? NO : sacks);
    }

    // at first s0,2,0,0;s1,3,1,0;s0,1,0,5;
    private static void newObject() {
        Story.of("wipe").same(Story.laid("s0,2,0,0;s1,3,1,0;s0,1,0,5;l0;c5;", "wipe"));
        Story.of().due("lay", NO).due("fault", NONE).due("undo", NO).due("back", NO);
        Story.of().dues("count", 0, 3, 3, 0, 0, 0, 0, 0, 0);
    }

    // A TEXT is bytes (300 at most) .. FULL.
    private static void textIsBytes300AtMost() {
        for (int n = 1; n <= 8; n++) {
            String write = "write " + n + " 0";
            Story.of("told " + times(300 - n, "x")).due(write, 300);
            Story.of("told " + times(301 - n, "x")).due(write, FULL);
            Story.of("told " + times(300, "x")).due(write, FULL);
        }
        Story full = Story.of("told " + times(99, "c1;") + "c1");
        full.due("fault", 297).due("write 2 3b3b", FULL).due("write 1 3b", 300);
        full.then("write 1 3b").due("fault", NONE).due("count 7", 300).due("write 0 0", BAD).due("write 9 0", BAD);
        Story.of("told " + times(8, SACK) + times(76, "c3;")).due("fault", NONE).due("lay", 8);
        Story.of("told " + times(8, SACK) + times(75, "c3;") + "c3,").due("fault", 297).due("lay", NO);
        Story.of("told " + times(300, "x")).then("wipe").due("write 8 0", 8);
        // What is refused leaves no byte behind in a text that can be laid.
        for (int n = 1; n <= 8; n++) {
            Story.of("told " + times(8, SACK) + times(76, "c3;")).due("write " + n + " 0", FULL);
            if (n > 3) Story.of("told " + times(8, SACK) + times(75, "c3;")).due("write " + n + " 0", FULL);
        }
    }

    // n bytes (1 to 8) .. BAD
    private static void writeTakesOneToEightBytes() {
        for (int n = 1; n <= 8; n++) {
            Story.of().due("write " + n + " ffffffffffffffff", n);
            BUSY.due("write " + n + " 0", 12 + n);
        }
        for (Story any : new Story[] {Story.of(), BUSY, Story.of("told " + times(300, "c"))}) {
            any.bad("write ? 3b", 0, 9, -1, -8, 256);
        }
    }

    // n bytes (1 to 8) of v, the highest first, come behind THE TEXT
    private static void writeTakesTheHighestFirst() {
        String text = "s4,9,3,87;s1,2,0,65;c43;";
        for (int n = 1; n <= 8; n++) {
            MixedMill x = new MixedMill();
            for (int from = 0; from < text.length(); from += n) {
                int bytes = Math.min(n, text.length() - from);
                long v = -1;
                for (int p = from; p < from + bytes; p++) v = v << 8 | text.charAt(p);
                Check.due("write(" + bytes + ", " + v + ")", x.write(bytes, v), from + bytes);
            }
            Check.due("fault()", x.fault(), NONE);
            Check.due("lay()", x.lay(), 2);
            int[] want = {4, 9, 3, 87, 1, 2, 0, 65};
            for (int w = 0; w < 8; w++) Check.due("sack by " + n, x.sack(w / 4, w % 4), want[w]);
            x.halve(0, 1);
            Check.due("cost by " + n, x.cost(), 43);
        }
        Story.of().then("write 3 8080808080633b").due("fault", 0);
        Story.of().then("write 3 80808080806c303b").due("fault", NONE);
    }

    // wipe: THE TEXT is empty: how long it was.
    private static void wipeEmptiesTheText() {
        Story.of().due("wipe", 0);
        Story.of("told x").due("wipe", 1).then("wipe").due("wipe", 0).due("count 7", 0).due("fault", NONE);
        Story.of("told " + times(300, "x")).due("wipe", 300);
        BUSY.due("wipe", 12).then("wipe").due("lay", NO);
        BUSY.then("wipe", "add s3,2,1,4;c8;").same(BUSY);
        Story.of("told " + SACK + SACK, "wipe").then("add s0,1,0,0").due("fault", 0);
    }

    // ITEMS one behind the other
    private static void itemsStandOneBehindTheOther() {
        faultOf("", NONE);
        faultOf("c1;l0;" + SACK + "c2;" + SACK, NONE);
        for (String parting : new String[] {" ", ",", ";", "\n", "" + (char) 0}) {
            faultOf("c1;" + parting + "l0;", 3);
            faultOf("c1;" + parting, 3);
            faultOf(parting + "c1;", 0);
        }
    }

    // each a letter
    private static void eachItemIsALetter() {
        faultOf("c1;s", 3);
        faultOf("c1;l", 3);
        faultOf("c1;c", 3);
        faultOf("c1;0,1,0,0;", 3);
        faultOf("c1;ss0,1,0,0;", 3);
        faultOf("c1;S0,1,0,0;", 3);
        faultOf("c1;L0;", 3);
        faultOf("c1;C0;", 3);
        faultOf("c1;1;", 3);
        faultOf("c1;ll1;", 3);
    }

    private static String[] itemsWith(String number) {
        return new String[] {"s" + number + ",1,0,0;", "s0," + number + ",0,0;", "s0,1," + number + ",0;",
            "s0,1,0," + number + ";", "l" + number + ";", "c" + number + ";"};
    }

    // numbers (one or two figures)
    private static void numbersHaveOneOrTwoFigures() {
        for (String item : itemsWith("")) faultOf("c2;" + item, 3);
        for (String item : itemsWith("1")) faultOf("c2;" + item, NONE);
        for (String item : itemsWith("01")) faultOf("c2;" + item, NONE);
        for (String item : itemsWith("001")) faultOf("c2;" + item, 3);
        for (String item : itemsWith("0001")) faultOf("c2;" + item, 3);
        for (String item : itemsWith("-1")) faultOf("c2;" + item, 3);
        for (String item : itemsWith("+1")) faultOf("c2;" + item, 3);
        for (String item : itemsWith(" 1")) faultOf("c2;" + item, 3);
        for (String item : itemsWith("1 ")) faultOf("c2;" + item, 3);
        for (String item : itemsWith("0x1")) faultOf("c2;" + item, 3);
    }

    // numbers parted by ,
    private static void numbersArePartedByCommas() {
        for (int at : new int[] {2, 4, 6}) {
            for (String other : new String[] {"", ";", ".", ",,", " ", ", ", " ,", ",;"}) {
                faultOf("l0;" + SACK.substring(0, at) + other + SACK.substring(at + 1) + "c1;", 3);
            }
        }
        faultOf("l0;s0,1,0,0", 3);
        faultOf("l0;s0,1,0,0,0;", 3);
        faultOf("l0;s0,1,0;", 3);
        faultOf("l0;s0;", 3);
        faultOf("l0;l0,0;", 3);
        faultOf("l0;c0,0;", 3);
        faultOf("l0;s,;", 3);
    }

    // and ; (behind the last one, too)
    private static void semicolonBehindTheLastNumberToo() {
        for (String item : itemsWith("1")) {
            String open = item.substring(0, item.length() - 1);
            for (String other : new String[] {"", ",", ".", " ", ":", " ;"}) {
                faultOf("c1;" + open + other, 3);
                faultOf("c1;" + open + other + "c1;", 3);
            }
            faultOf("c1;" + open + ";;", 3 + item.length());
            for (int cut = 1; cut < item.length(); cut++) faultOf(SACK + item.substring(0, cut), 9);
        }
    }

    private static void faultIs(String text, boolean fits) {
        MixedMill x = new MixedMill();
        Check.tell(x, "l0;" + text);
        Check.due("fault() of " + text, x.fault(), fits ? NONE : 3);
        if (!fits) Check.due("lay() of " + text, x.lay(), NO);
    }

    private static void everyByteInEveryPlace() {
        for (char b = 0; b < 256; b++) {
            boolean figure = b >= '0' && b <= '9';
            faultIs(b + "1,1,1,1;", b == 's');
            faultIs(b + "1;", b == 'l' || b == 'c');
            faultIs("s" + b + ",1,1,1;", figure && b <= '4');
            faultIs("s1," + b + ",1,1;", figure && b >= '1');
            faultIs("s1,1," + b + ",1;", figure && b <= '4');
            faultIs("s1,1,1," + b + ";", figure);
            faultIs("l" + b + ";", figure && b <= '1');
            faultIs("c" + b + ";", figure);
            if (b != ';') faultIs("c1" + b + ";", figure);
            faultIs("s1" + b + "1,1,1;", b == ',');
            faultIs("s1,1" + b + "1,1;", b == ',');
            faultIs("s1,1,1" + b + "1;", b == ',');
            faultIs("s1,1,1,1" + b, b == ';');
            faultIs("l1" + b, b == ';');
            faultIs("c1" + b, b == ';');
        }
    }

    /** Sacks whose number w is from 0 to 99: a fault but from low to high. */
    private static void numberIs(int w, int low, int high) {
        for (int n = 0; n <= 99; n++) {
            for (String figures : new String[] {"" + n, n < 10 ? "0" + n : "" + n}) {
                String item = itemsWith(figures)[w];
                boolean fits = n >= low && n <= high;
                faultIs(item, fits);
                if (!fits) continue;
                MixedMill x = Check.laid(item + "s3,8,2,77;");
                Check.due("sack(0, " + w + ") of " + item, x.sack(0, w), n);
                Check.due("sack(1, " + w + ") of " + item, x.sack(1, w), new int[] {3, 8, 2, 77}[w]);
            }
        }
        faultOf(itemsWith("100")[w], 0);
    }

    // KIND K (0 to 4)
    private static void kindIs0To4() {
        numberIs(0, 0, 4);
        faultOf("s4,1,0,0;", NONE);
        faultOf("s5,1,0,0;", 0);
    }

    // SIZE Z (1 to 9)
    private static void sizeIs1To9() {
        numberIs(1, 1, 9);
        faultOf("s0,0,0,0;", 0);
        faultOf("s0,1,0,0;", NONE);
        faultOf("s0,9,0,0;", NONE);
        faultOf("s0,10,0,0;", 0);
    }

    // OWNER O (0 to 4)
    private static void ownerIs0To4() {
        numberIs(2, 0, 4);
        faultOf("s0,1,4,0;", NONE);
        faultOf("s0,1,5,0;", 0);
    }

    // HOUR H (0 to 99)
    private static void hourIs0To99() {
        numberIs(3, 0, 99);
        faultOf("s0,1,0,99;", NONE);
        faultOf("s0,1,0,100;", 0);
    }

    // 8 at most, 0, 1, ..
    private static void sacksAre8AtMost() {
        for (int n = 1; n <= 8; n++) faultOf(times(n, SACK), NONE);
        faultOf(times(8, SACK) + "l1;c1;l0;", NONE);
        faultOf(times(9, SACK), 72);
        faultOf(times(10, SACK), 72);
        faultOf(times(8, SACK) + "l1;c1;" + SACK, 78);
        faultOf(times(4, SACK) + "l1;c10;" + times(5, SACK), 79);
        faultOf(times(8, SACK) + "s9,9,9,9;", 72);
        faultOf(times(7, SACK) + "s9,9,9,9;" + SACK, 63);
        MixedMill x = Check.laid("s0,1,0,1;s1,2,0,2;l0;s2,3,0,3;s3,4,0,4;s4,5,0,5;c1;s0,6,0,6;s1,7,0,7;s2,8,0,8;");
        for (int i = 0; i < 8; i++) {
            Check.due("KIND of " + i, x.sack(i, 0), i % 5);
            Check.due("SIZE of " + i, x.sack(i, 1), i + 1);
            Check.due("HOUR of " + i, x.sack(i, 3), i + 1);
        }
        Check.due("a ninth", x.sack(8, 0), BAD);
    }

    // lL the LAW: 0 ONE, 1 TWO
    private static void lawIs0Or1() {
        for (int n = 0; n <= 99; n++) {
            faultIs("l" + n + ";", n <= 1);
            if (n < 10) faultIs("l0" + n + ";", n <= 1);
        }
        for (String text : new String[] {"l0;", "l00;"}) Story.laid(SACK + text).due("halvings", 0);
        for (String text : new String[] {"l1;", "l01;"}) Story.laid(SACK + text).due("halvings", NO);
        String three = "s0,1,0,0;s1,1,0,0;s0,1,0,0;";
        Story.laid(three + "l0;", "pour 0", "pour 1").due("may 2", 1);
        Story.laid(three + "l1;", "pour 0", "pour 1").due("may 2", 0);
    }

    // (0 without; ..)
    private static void lawIs0Without() {
        Story.laid(SACK).due("halvings", 0);
        Story.laid(SACK + "l1;").then("laid " + SACK).due("halvings", 0);
    }

    // the LAW .. (..; the last one)
    private static void theLastLawCounts() {
        Story.laid("l1;" + SACK + "l0;").due("halvings", 0);
        Story.laid("l0;" + SACK + "l1;").due("halvings", NO);
        Story.laid("l0;l1;l0;l1;" + SACK).due("halvings", NO);
        Story.laid("l1;l0;l1;" + SACK + "l1;l0;" + SACK).due("halvings", NONE);
    }

    private static void costOf(String text, int want) {
        Story.laid("s0,9,0,0;" + text, "halve 0 1").due("cost", want);
    }

    // to halve a SACK costs C (0 to 99)
    private static void costIs0To99() {
        for (int n = 0; n <= 99; n++) {
            costOf("c" + n + ";", n);
            if (n < 10) costOf("c0" + n + ";", n);
        }
        faultOf("c100;", 0);
        faultOf("c-1;", 0);
    }

    // (5 without; ..)
    private static void costIs5Without() {
        costOf("", 5);
        Story.laid("s0,9,0,0;c8;").then("laid s0,9,0,0;", "halve 0 1").due("cost", 5);
        Story.of("halve 0 1").due("cost", 5);
    }

    // to halve a SACK costs C .. (..; the last one)
    private static void theLastCostCounts() {
        costOf("c1;c2;", 2);
        costOf("c2;c1;s0,1,0,0;c0;", 0);
        Story.laid("c1;s0,9,0,0;c99;", "halve 0 1").due("cost", 99);
    }

    // FAULT: the place of the first byte of the first ITEM that is not so.
    private static void faultIsThePlaceOfTheItem() {
        faultOf("s0,1,0,x;", 0);
        faultOf(SACK + "s0,1,0,x;", 9);
        faultOf("c1;l1;s0,1,0,0;s0,0,0,0;", 15);
        faultOf(times(3, SACK) + "l2;", 27);
        faultOf(times(99, "c1;") + "?", 297);
        faultOf(times(99, "c1;") + "c1?", 297);
        faultOf(times(99, "c1;") + "c99", 297);
    }

    private static void faultIsTheFirst() {
        faultOf("c1;l2;c100;", 3);
        faultOf("c1;x;s0,1,0,0;", 3);
        faultOf("s0,1,0,0;s5,1,0,0;s0,0,0,0;?", 9);
        faultOf("s0,1,0,0;s0,1,0,0s0,1,0,0;", 9);
    }

    // LAID is a TEXT without FAULT .. (NO else)
    private static void laidIsWithoutFault() {
        for (String text : new String[] {SACK + "?", "?" + SACK, SACK + "l2;", "c100;" + SACK, "l1;c9;" + SACK + "s"}) {
            Story.of("told " + text).due("lay", NO);
            BUSY.then("told " + text).due("lay", NO);
        }
        Story.of("told " + SACK + "s0,1,0,0").due("lay", NO).then("add ;").due("lay", 2);
    }

    // .. of a SACK at least (NO else)
    private static void laidIsOfASackAtLeast() {
        for (String text : new String[] {"", "l1;", "c9;", "l1;c9;l0;", times(100, "c9;")}) {
            Story.of("told " + text).due("fault", NONE).due("lay", NO);
            BUSY.then("told " + text).due("fault", NONE).due("lay", NO);
        }
        Story.of("told l1;" + SACK).due("lay", 1);
    }

    // LAID: how many SACKS; all wait, HOUR 0, nothing POURED, no QUEUE, nothing UNDONE, KEPT.
    private static void layMakesAllNew() {
        for (int n = 1; n <= 8; n++) BUSY.then("told " + times(n, SACK)).due("lay", n);
        Story again = BUSY.then("lay");
        again.same(Story.laid("s3,2,1,4;c8;"));
        again.dues("count", 0, 1, 1, 0, 0, 0, 0, 0, 12).due("undo", NO).due("back", NO).due("cost", 0);
        again.due("sack 0 4", 0).due("may 0", 1);
        Story whole = Story.laid("s0,4,0,0;s0,3,0,0;", "pour 0", "keep", "keep", "sell 1");
        whole.then("lay").same(Story.laid("s0,4,0,0;s0,3,0,0;"));
        BUSY.then("fault").same(BUSY);
    }

    // sack .. BAD: SACKS
    private static void sackIsOneThatIs() {
        Story.of().due("sack 0 0", 0).due("sack 2 0", 0).bad("sack ? 0", -1, 3, 9, 10);
        Story.laid(SACK).due("sack 0 1", 1).bad("sack ? 1", -1, 1);
        Story nine = Story.laid(times(7, SACK) + "s3,9,2,44;", "halve 7 8");
        nine.due("sack 7 1", 1).due("sack 8 1", 8).bad("sack ? 1", 9, 10);
        Story ten = nine.then("halve 8 3");
        ten.due("sack 8 1", 5).due("sack 9 1", 3).bad("sack ? 1", 10, 11);
        ten.then("undo").bad("sack ? 4", 9);
        ten.then("undo", "undo").bad("sack ? 4", 8, 9);
    }

    // KIND (what = 0), SIZE (1), OWNER (2), HOUR (3), how it is (4): 0 it waits, 1 POURED, 2 SOLD. BAD.
    private static void sackWhatIs0To4() {
        Story x = Story.laid("s3,7,4,98;s2,1,0,5;");
        x.due("sack 0 0", 3).due("sack 0 1", 7).due("sack 0 2", 4).due("sack 0 3", 98).due("sack 0 4", 0);
        x.bad("sack 0 ?", -1, 5).bad("sack 1 ?", -1, 5).bad("sack 2 ?", -1, 0, 4, 5);
        x.then("pour 0").due("sack 0 4", 1).due("sack 1 4", 0).bad("sack 0 ?", -1, 5);
        x.then("sell 0").due("sack 0 4", 2).due("sack 0 1", 7).due("sack 1 4", 0).bad("sack 0 ?", -1, 5);
    }
}
