/** The edges of section 3 of the document and of promises 16 to 23, each sentence by itself. */
public final class AheadEdgeTest {
    private static final int BAD = Story.BAD, NO = Story.NO, NONE = Story.NONE;
    private static final String EIGHT = "s0,9,0,0;s1,2,1,0;s2,1,2,0;s0,1,3,0;s1,1,4,0;s2,1,0,0;s0,1,1,0;s1,1,2,0;";

    private AheadEdgeTest() { }

    public static void main(String[] args) {
        ordersOfNothingIs1();
        ordersFromNowOn();
        ordersTakesOneKindAsAlike();
        mostIsMinus2AndMore();
        mostOfNothing();
        mostBehindTheLastIsNone();
        mostIsTheFirstOfSeveral();
        mostIsFromNowOn();
        soonestOfNothingIsNow();
        soonestIsByAnyRow();
        halvingsIsNoByTwo();
        halvingsIsNoneWhereSizesAreShort();
        halvingsAtItsEdge();
        halvingsFromNowOn();
        halvingsLetsSacksInAllBe();
        moreIsOfAKind();
        moreAtItsEdge();
        lacksIsOfAKind();
        lacksAtItsEdge();
        togetherIsOfAnOwner();
        togetherOfNothing();
        togetherIsOfOwnersOfWhomASackWaits();
        togetherIsWithoutOthers();
        togetherHasNobodyInTwo();
        togetherIsThatOfMost();
        togetherIsTheFirstOfSeveral();
        togetherIsFromNowOn();
        growsIsOfAnOwner();
        growsIsNoneIfNothingWaits();
        growsIsTheLowest();
        growsIsTheGreatest();
        twoMillsWhatIs0Or1();
        twoMillsOfNothing();
        twoMillsIsNone();
        twoMillsThisOneNow();
        twoMillsTheOtherOneAt0();
        twoMillsTheLowestSet();
        whatWasAskedBeforeDoesNotMatter();
        Check.end();
    }

    /** Sacks of size 1 that are there at 0, of owner 0, of these kinds. */
    private static String kinds(String all) {
        StringBuilder text = new StringBuilder();
        for (char kind : all.toCharArray()) text.append('s').append(kind).append(",1,0,0;");
        return text.toString();
    }

    // ORDERS .. (nothing waits: 1)
    private static void ordersOfNothingIs1() {
        for (String law : new String[] {"l0;", "l1;"}) {
            Story.laid(kinds("01") + law, "pour 0", "pour 1").due("orders", 1);
            Story.laid(kinds("01") + law, "sell 0", "sell 1").due("orders", 1);
            Story.laid(kinds("01") + law, "pour 0", "sell 1").due("orders", 1);
            Story.laid(kinds("0") + law).due("orders", 1);
            Story.laid(kinds("00") + law, "pour 0").due("orders", 0);
        }
    }

    // in how many orders all that wait can be POURED from now on
    private static void ordersFromNowOn() {
        Story one = Story.laid(kinds("0012"));
        one.due("orders", 6).then("pour 0").due("orders", 4).then("sell 1").due("orders", 2);
        one.then("pour 2").due("orders", 1).then("pour 0").due("orders", 1);
        Story two = Story.laid(kinds("00112") + "l1;").due("orders", 2);
        two.then("pour 0").due("orders", 1).then("pour 2").due("orders", 1).then("pour 4").due("orders", 1);
        two.then("pour 4").due("orders", 0);
        Story.laid(kinds("012") + "l1;").due("orders", 6).then("pour 0").due("orders", 2);
        Story.laid(kinds("010") + "l1;").due("orders", 0);
        Story.laid(kinds("010")).due("orders", 1).then("sell 1").due("orders", 0);
    }

    // SACKS of one KIND taken as alike
    private static void ordersTakesOneKindAsAlike() {
        Story.laid("s0,1,0,0;s0,9,1,50;s1,1,0,0;s2,1,0,0;").due("orders", 6);
        Story.laid(kinds("01")).due("orders", 2);
        Story.laid(kinds("00")).due("orders", 0);
        Story.laid(kinds("01234")).due("orders", 120);
        Story.laid(kinds("01234") + "l1;").due("orders", 120);
        Story.laid("s0,2,0,0;s1,2,0,0;" + kinds("223344"), "halve 0 1", "halve 1 1").due("orders", 39480);
    }

    // MOST: how many (i = -1), the i-th SACK; SOONEST (-2). .. BAD.
    private static void mostIsMinus2AndMore() {
        Story x = Story.of("queue 0");
        x.due("most -3", BAD).due("most -2", 6).due("most -1", 3).due("most 0", 0).due("most 2", 2).due("most 3", NONE);
        x.due("most " + Integer.MIN_VALUE, BAD).due("most -1000", BAD);
        x.then("pour 0", "pour 1", "pour 2").due("most -3", BAD);
    }

    private static void mostOfNothing() {
        for (String law : new String[] {"l0;", "l1;"}) {
            Story gone = Story.laid(kinds("01") + law, "sell 0", "sell 1");
            gone.due("most -1", 0).due("most 0", NONE).due("most -2", 0);
            Story stuck = Story.laid(kinds("00") + law, "pour 0");
            stuck.due("most -1", 0).due("most 0", NONE).due("most 1", NONE).due("most -2", 1);
        }
    }

    // NONE: not so many
    private static void mostBehindTheLastIsNone() {
        Story.laid(kinds("001")).due("most 2", 1).due("most 3", NONE);
        Story.laid(kinds("000")).due("most 0", 0).due("most 1", NONE).due("most 2", NONE).due("most 3", NONE);
        Story ten = Story.laid(EIGHT, "halve 0 1", "halve 0 1").due("most -1", 10);
        ten.due("most 9", 9).due("most 10", NONE).due("most 1000", NONE).due("most " + Integer.MAX_VALUE, NONE);
    }

    private static void rowIs(Story x, String row) {
        x.due("most -1", row.length());
        for (int i = 0; i < row.length(); i++) x.due("most " + i, row.charAt(i) - '0');
        x.due("most " + row.length(), NONE);
    }

    // that of most, of several the first (by the first SACK, then the second, ..)
    private static void mostIsTheFirstOfSeveral() {
        rowIs(Story.laid(kinds("012")), "012");
        rowIs(Story.laid(kinds("210")), "012");
        rowIs(Story.laid(kinds("0012")), "0213");
        rowIs(Story.laid(kinds("00012")), "03142");
        rowIs(Story.laid(kinds("100")), "102");
        rowIs(Story.laid(kinds("1000")), "102");
        rowIs(Story.laid(kinds("0100")), "012");
        rowIs(Story.laid(kinds("0010")), "021");
        rowIs(Story.laid(kinds("0012") + "l1;"), "0231");
        rowIs(Story.laid(kinds("1002") + "l1;"), "1032");
    }

    // of SACKS that wait .. from now on
    private static void mostIsFromNowOn() {
        Story x = Story.laid(kinds("00012"));
        rowIs(x.then("pour 1"), "3042");
        rowIs(x.then("pour 1", "sell 3"), "40");
        rowIs(x.then("pour 1", "sell 3", "sell 4"), "");
        rowIs(x.then("pour 3"), "041");
        rowIs(Story.laid(kinds("0102") + "l1;", "pour 0", "pour 1"), "32");
        rowIs(Story.laid(kinds("0102") + "l1;", "pour 0"), "132");
    }

    private static void soonestOfNothingIsNow() {
        Story.laid(kinds("0"), "sell 0").due("most -2", 0);
        Story.laid("s0,9,0,99;", "pour 0").due("most -2", 108);
        Story.laid("s0,9,0,99;s0,1,0,0;", "pour 0").due("most -2", 108);
    }

    // SOONEST: the least HOUR when so many can have been POURED, by any such row.
    private static void soonestIsByAnyRow() {
        Story.laid("s0,2,0,10;s1,5,0,0;s2,4,0,0;").due("most -2", 12);
        Story.laid("s0,9,0,0;s0,1,0,0;").due("most -2", 1);
        Story.laid("s0,9,0,0;s0,1,0,9;").due("most -2", 9);
        Story.laid("s0,9,0,0;s0,1,0,7;").due("most -2", 8);
        Story.laid("s0,5,0,0;s1,1,0,4;").due("most -2", 6);
        Story.laid("s0,5,0,0;s1,1,0,5;").due("most -2", 6);
        Story.laid("s0,5,0,0;s1,1,0,6;").due("most -2", 7);
        Story.laid("s0,3,0,0;s0,2,0,0;s1,4,0,0;", "pour 0").due("most -2", 9);
        Story.laid("s0,3,0,0;s0,2,0,0;s1,4,0,0;l1;").due("most -2", 6);
        Story.laid("s0,9,0,99;s1,9,0,99;").due("most -2", 117);
    }

    // NO: the LAW is TWO.
    private static void halvingsIsNoByTwo() {
        Story.laid(kinds("0") + "l0;").due("halvings", 0);
        Story.laid(kinds("0") + "l1;").due("halvings", NO);
        Story.laid(kinds("00") + "l0;").due("halvings", NONE);
        Story.laid(kinds("00") + "l1;").due("halvings", NO);
        Story.laid(kinds("0") + "l1;", "pour 0").due("halvings", NO);
        Story.laid(kinds("0") + "l1;", "sell 0").due("halvings", NO);
    }

    // HALVINGS .. none.
    private static void halvingsIsNoneWhereSizesAreShort() {
        for (int size = 1; size <= 9; size++) {
            Story.laid(kinds("0000") + "s1," + size + ",0,0;").due("halvings", size < 3 ? NONE : 2);
            Story.laid(kinds("00000") + "s1,2,0,0;s2," + size + ",0,0;").due("halvings", size < 2 ? NONE : 2);
            Story.laid(kinds("0000") + "s1," + size + ",0,0;", "pour 0").due("halvings", size < 3 ? NONE : 2);
        }
        Story.laid("s0,9,0,0;s0,9,0,0;").due("halvings", NONE);
        Story.laid("s0,9,0,0;s0,9,0,0;", "pour 0").due("halvings", NONE);
        Story.laid(kinds("0000000") + "s1,5,0,0;").due("halvings", NONE);
        Story.laid(kinds("0000000") + "s1,6,0,0;").due("halvings", 5);
        Story.laid(kinds("00") + "s1,9,0,0;", "sell 2").due("halvings", NONE);
    }

    // how many at the fewest (of new ones, too ..)
    private static void halvingsAtItsEdge() {
        Story.laid("s0,9,0,0;").due("halvings", 0);
        Story.laid("s0,9,0,0;s1,9,0,0;").due("halvings", 0);
        Story.laid("s0,9,0,0;s0,9,0,0;s1,9,0,0;").due("halvings", 0);
        Story.laid("s0,9,0,0;s0,9,0,0;s0,9,0,0;s1,9,0,0;").due("halvings", 1);
        Story.laid("s0,9,0,0;s0,9,0,0;s0,9,0,0;s0,9,0,0;s1,9,0,0;").due("halvings", 2);
        Story.laid("s4,9,0,0;s4,9,0,0;s4,9,0,0;s4,9,0,0;s3,9,0,0;").due("halvings", 2);
        Story.laid(kinds("0"), "pour 0").due("halvings", 0);
        Story.laid(kinds("0"), "sell 0").due("halvings", 0);
    }

    private static void halvingsFromNowOn() {
        Story x = Story.laid("s0,1,0,0;s0,1,0,0;s1,2,0,0;s2,1,0,0;");
        x.due("halvings", 0).then("pour 0", "sell 3").due("halvings", 0);
        Story y = Story.laid("s0,1,0,0;s0,1,0,0;s0,1,0,0;s1,2,0,0;s2,1,0,0;", "sell 4");
        y.due("halvings", 1).then("pour 0").due("halvings", 1).then("pour 3").due("halvings", NONE);
        Story z = Story.laid("s0,2,0,0;s1,1,0,0;s1,1,0,0;s1,1,0,0;", "pour 1");
        z.due("halvings", 1).then("halve 0 1").due("halvings", 0);
        Story.laid("s0,1,0,0;s1,1,0,0;s1,1,0,0;s1,1,0,0;", "pour 1").due("halvings", NONE);
    }

    // SACKS in all let be
    private static void halvingsLetsSacksInAllBe() {
        Story x = Story.laid(kinds("0000000") + "s1,9,0,0;").due("halvings", 5).then("halve 7 1");
        x.due("halvings", 4).then("halve 7 1").due("halve 7 1", Story.FULL).due("halvings", 3);
    }

    // more .. BAD: KINDS 0 to 4
    private static void moreIsOfAKind() {
        Story.of("queue 1").due("more 0", 0).due("more 1", 1).due("more 4", 1).bad("more ?", -1, 5);
        Story.laid(kinds("4"), "pour 0").due("more 4", 0).due("more 0", 1).bad("more ?", -1, 5);
    }

    // MORE of a KIND: how many more MOST would be, if one SACK more of it waited.
    private static void moreAtItsEdge() {
        Story.laid(kinds("0"), "sell 0").dues("more", 0, 1, 1, 1, 1, 1);
        Story.laid(kinds("0"), "pour 0").dues("more", 0, 0, 1, 1, 1, 1);
        Story.laid(kinds("01"), "pour 0", "pour 1").dues("more", 0, 1, 0, 1, 1, 1);
        Story.laid(kinds("01") + "l1;", "pour 0", "pour 1").dues("more", 0, 0, 0, 1, 1, 1);
        Story.laid(kinds("012") + "l1;", "pour 0", "pour 1", "pour 2").dues("more", 0, 1, 0, 0, 1, 1);
        Story.laid(kinds("0001")).dues("more", 0, 0, 2, 2, 2, 2);
        Story.laid(kinds("0011") + "l1;").dues("more", 0, 0, 0, 3, 3, 3);
        Story.laid("s0,2,0,0;s1,2,0,0;" + kinds("223344"), "halve 0 1", "halve 1 1").dues("more", 0, 1, 1, 1, 1, 1);
    }

    // lacks .. BAD: KINDS 0 to 4
    private static void lacksIsOfAKind() {
        Story.of("queue 1").due("lacks 0", 2).due("lacks 1", 2).due("lacks 4", 0).bad("lacks ?", -1, 5);
        Story.laid(kinds("4")).due("lacks 4", 1).due("lacks 0", 0).bad("lacks ?", -1, 5);
    }

    // LACKS: how many fewer MOST would be, if no SACK of a KIND waited.
    private static void lacksAtItsEdge() {
        Story.laid(kinds("0"), "sell 0").dues("lacks", 0, 0, 0, 0, 0, 0);
        Story.laid(kinds("0"), "pour 0").dues("lacks", 0, 0, 0, 0, 0, 0);
        Story.laid(kinds("00"), "pour 0").dues("lacks", 0, 0, 0, 0, 0, 0);
        Story.laid(kinds("001"), "pour 0").dues("lacks", 0, 1, 2, 0, 0, 0);
        Story.laid(kinds("00012")).dues("lacks", 0, 3, 2, 2, 0, 0);
        Story.laid(kinds("0120") + "l1;").dues("lacks", 0, 2, 2, 2, 0, 0);
        Story.laid(kinds("01"), "sell 0").dues("lacks", 0, 0, 1, 0, 0, 0);
    }

    // how many pairs (i = -1), with whom OWNER i is. NONE; BAD.
    private static void togetherIsOfAnOwner() {
        Story.of("queue 0").dues("together", -1, 1, 1, 0, NONE, NONE, NONE).bad("together ?", -2, 5);
        Story.laid("s0,1,3,0;s1,1,4,0;").dues("together", -1, 1, NONE, NONE, NONE, 4, 3).bad("together ?", -2, 5);
        Story.of("sell 0", "sell 1", "sell 2").bad("together ?", -2, 5);
    }

    private static void togetherOfNothing() {
        Story.of("sell 0", "sell 1", "sell 2").dues("together", -1, 0, NONE, NONE, NONE, NONE, NONE);
        Story.laid("s0,1,2,0;s1,1,2,0;").dues("together", -1, 0, NONE, NONE, NONE, NONE, NONE);
    }

    // two OWNERS, of each of whom a SACK waits
    private static void togetherIsOfOwnersOfWhomASackWaits() {
        Story x = Story.laid("s0,1,0,0;s1,1,0,0;s2,1,1,0;");
        x.dues("together", -1, 1, 1, 0, NONE, NONE, NONE);
        x.then("sell 2").dues("together", -1, 0, NONE, NONE);
        x.then("pour 2").dues("together", -1, 0, NONE, NONE);
        x.then("sell 0").dues("together", -1, 1, 1, 0);
        x.then("sell 0", "sell 1").dues("together", -1, 0, NONE, NONE);
    }

    // if all SACKS of both that wait can be POURED in some order from now on, without others
    private static void togetherIsWithoutOthers() {
        Story x = Story.laid("s0,1,0,0;s0,1,1,0;s1,1,2,0;");
        x.dues("together", -1, 1, 2, NONE, 0, NONE, NONE);
        x.then("sell 2").dues("together", -1, 0, NONE, NONE, NONE, NONE, NONE);
        Story all = Story.laid("s0,1,0,0;s0,1,0,0;s1,1,1,0;s0,1,2,0;");
        all.dues("together", -1, 1, 1, 0, NONE, NONE, NONE);
        Story.laid("s0,1,0,0;s0,1,0,0;s0,1,0,0;s1,1,1,0;").dues("together", -1, 0, NONE, NONE, NONE, NONE, NONE);
        Story.laid("s0,1,0,0;s1,1,1,0;s0,1,1,0;l0;").dues("together", -1, 1, 1, 0);
        Story.laid("s0,1,0,0;s1,1,1,0;s0,1,1,0;l1;").dues("together", -1, 0, NONE, NONE);
    }

    // nobody in two
    private static void togetherHasNobodyInTwo() {
        String all = "s0,1,0,0;s1,1,1,0;s2,1,2,0;s3,1,3,0;s4,1,4,0;";
        Story.laid(all.substring(0, 18)).dues("together", -1, 1, 1, 0, NONE, NONE, NONE);
        Story.laid(all.substring(0, 27)).dues("together", -1, 1, 1, 0, NONE, NONE, NONE);
        Story.laid(all.substring(0, 36)).dues("together", -1, 2, 1, 0, 3, 2, NONE);
        Story.laid(all).dues("together", -1, 2, 1, 0, 3, 2, NONE);
        Story.laid(all, "sell 0").dues("together", -1, 2, NONE, 2, 1, 4, 3);
    }

    // of all ways to make pairs .. that of most
    private static void togetherIsThatOfMost() {
        Story.laid("s0,1,0,0;s1,1,1,0;s2,1,2,0;s2,1,3,0;s2,1,3,0;").dues("together", -1, 2, 2, 3, 0, 1, NONE);
        Story.laid("s0,1,0,0;s1,1,1,0;s1,1,2,0;s0,1,3,0;").dues("together", -1, 2, 1, 0, 3, 2, NONE);
        Story.laid("s0,1,0,0;s1,1,1,0;s0,1,2,0;").dues("together", -1, 1, 1, 0, NONE, NONE, NONE);
    }

    // of several the first (by with whom OWNER 0 is, nobody last, then 1, ..)
    private static void togetherIsTheFirstOfSeveral() {
        Story.laid("s0,1,0,0;s1,1,1,0;s1,1,2,0;").dues("together", -1, 1, 1, 0, NONE, NONE, NONE);
        Story.laid("s1,1,0,0;s1,1,1,0;s0,1,2,0;s1,1,3,0;").dues("together", -1, 1, 2, NONE, 0, NONE, NONE);
        Story.laid("s0,1,1,0;s1,1,2,0;s2,1,3,0;s3,1,4,0;").dues("together", -1, 2, NONE, 2, 1, 4, 3);
        Story.laid("s0,1,1,0;s0,1,2,0;s1,1,3,0;s1,1,4,0;").dues("together", -1, 2, NONE, 3, 4, 1, 2);
    }

    private static void togetherIsFromNowOn() {
        Story x = Story.laid("s0,1,4,0;s0,1,0,0;s0,1,1,0;s1,1,1,0;");
        x.then("sell 0").dues("together", -1, 1, 1, 0);
        x.then("pour 0").dues("together", -1, 0, NONE, NONE);
        Story y = Story.laid("s0,1,4,0;s1,1,4,0;s0,1,0,0;s2,1,1,0;l1;", "pour 0");
        y.then("sell 1").dues("together", -1, 0, NONE, NONE);
        y.then("pour 1").dues("together", -1, 1, 1, 0);
    }

    // grows .. BAD: OWNERS 0 to 4
    private static void growsIsOfAnOwner() {
        Story.of("queue 0").due("grows 0", 0).due("grows 1", 1).due("grows 4", NONE).bad("grows ?", -1, 5);
        Story.laid("s0,1,4,0;").due("grows 4", 0).due("grows 0", NONE).bad("grows ?", -1, 5);
    }

    // NONE: nothing of his waits
    private static void growsIsNoneIfNothingWaits() {
        Story x = Story.laid("s0,1,2,0;s1,1,2,0;s2,1,3,0;");
        x.dues("grows", 0, NONE, NONE, 0, 0, NONE);
        x.then("pour 0").due("grows 2", 0).then("sell 1").due("grows 2", NONE);
        x.then("sell 0").due("grows 2", 0).then("pour 1").due("grows 2", NONE);
        x.then("sell 2").due("grows 3", NONE);
    }

    // MOST would be greatest, the lowest
    private static void growsIsTheLowest() {
        Story x = Story.laid("s0,1,0,0;s1,1,0,0;s2,1,0,0;s3,1,2,0;").due("grows 2", 0);
        x.then("sell 0", "sell 1", "sell 2").due("grows 2", 0);
        x.then("pour 0", "sell 1", "sell 2").due("grows 2", 1);
        x.then("pour 1", "sell 0", "sell 2").due("grows 2", 0);
        Story two = Story.laid("s0,1,0,0;s1,1,0,0;s2,1,0,0;s3,1,2,0;l1;", "sell 2");
        two.then("pour 0", "pour 1").due("grows 2", 2);
        two.then("pour 0", "sell 1").due("grows 2", 1);
        two.then("pour 1", "pour 0").due("grows 2", 2);
    }

    // the KIND by which, if all SACKS of an OWNER that wait were of it
    private static void growsIsTheGreatest() {
        String his = "s0,1,4,0;s0,1,4,0;s1,1,4,0;s2,1,4,0;";
        Story.laid(his).due("grows 4", 0);
        Story.laid(his + kinds("012")).due("grows 4", 3);
        Story.laid(his + kinds("0123")).due("grows 4", 4);
        Story.laid(his + kinds("0000")).due("grows 4", 1);
        Story.laid(his + kinds("0123"), "sell 0", "sell 1").due("grows 4", 0);
        Story.laid(his + kinds("0"), "pour 4", "sell 0", "sell 1", "sell 2").due("grows 4", 1);
    }

    // the HOUR (what = 0), the SACKS (1). NONE; BAD.
    private static void twoMillsWhatIs0Or1() {
        Story.of("queue 0").due("twoMills 0", 6).due("twoMills 1", 0).bad("twoMills ?", -1, 2);
        Story.laid(kinds("000")).due("twoMills 0", NONE).due("twoMills 1", NONE).bad("twoMills ?", -1, 2);
    }

    private static void millsAre(Story x, int hour, int sacks) {
        x.due("twoMills 0", hour).due("twoMills 1", sacks);
    }

    private static void twoMillsOfNothing() {
        millsAre(Story.laid(kinds("0"), "sell 0"), 0, 0);
        millsAre(Story.laid("s0,9,0,99;", "pour 0"), 108, 0);
    }

    // none.
    private static void twoMillsIsNone() {
        millsAre(Story.laid(kinds("0")), 1, 0);
        millsAre(Story.laid(kinds("00")), 1, 1);
        millsAre(Story.laid(kinds("000")), NONE, NONE);
        millsAre(Story.laid(kinds("000"), "sell 1"), 1, 1);
        millsAre(Story.laid(kinds("00"), "pour 0"), 1, 0);
        millsAre(Story.laid(kinds("000"), "pour 0"), NONE, NONE);
        millsAre(Story.laid(kinds("0101") + "l1;"), 2, 3);
        millsAre(Story.laid(kinds("01010") + "l1;"), NONE, NONE);
        millsAre(Story.laid(kinds("01010")), 3, 3);
        millsAre(Story.laid(kinds("0100") + "l1;", "pour 0", "pour 1"), NONE, NONE);
        millsAre(Story.laid(kinds("010") + "l1;", "pour 0", "pour 1"), 2, 0);
    }

    // this mill, as it is now .. (this one now, if it has none ..)
    private static void twoMillsThisOneNow() {
        Story x = Story.laid("s0,9,0,0;s0,8,0,0;s1,1,0,0;", "pour 0");
        millsAre(x, 9, 0);
        millsAre(x.then("sell 1"), 9, 0);
        millsAre(x.then("sell 2"), 9, 0);
        Story late = Story.laid("s0,2,0,0;s0,5,0,0;s1,4,0,0;", "pour 0");
        millsAre(late, 6, 4);
        millsAre(late.then("pour 2"), 6, 0);
    }

    // and one at which nothing was POURED, from HOUR 0 on .. (.. the other one at 0)
    private static void twoMillsTheOtherOneAt0() {
        millsAre(Story.laid("s0,9,0,50;s0,9,0,0;", "pour 0"), 59, 0);
        millsAre(Story.laid("s0,1,0,0;s0,9,0,0;", "pour 0"), 9, 0);
        millsAre(Story.laid("s0,1,0,0;s1,9,0,0;s0,5,0,0;", "pour 0"), 10, 2);
        millsAre(Story.laid("s0,1,0,0;s0,9,0,3;", "pour 0"), 12, 0);
        millsAre(Story.laid("s1,1,0,0;s0,9,0,0;s0,9,0,0;", "pour 0"), 10, 2);
    }

    // of the ways by which that is so the lowest set (bits) of SACKS of this one
    private static void twoMillsTheLowestSet() {
        millsAre(Story.laid("s0,2,0,9;s1,1,0,0;"), 11, 0);
        millsAre(Story.laid("s0,3,0,0;s1,3,0,0;"), 3, 1);
        millsAre(Story.laid("s0,3,0,0;s1,2,0,0;s2,1,0,0;"), 3, 1);
        millsAre(Story.laid("s2,1,0,0;s1,2,0,0;s0,3,0,0;"), 3, 3);
        millsAre(Story.laid(kinds("00"), "sell 0"), 1, 0);
        millsAre(Story.laid(kinds("4300"), "sell 0", "pour 1"), 2, 4);
        Story ten = Story.laid("s0,9,0,0;s1,3,0,0;" + kinds("222222"), "halve 0 5", "halve 0 1", "sell 0", "pour 1");
        millsAre(ten.then("sell 2", "sell 3", "sell 4", "sell 5", "sell 6", "sell 7"), 5, 512);
    }

    /** What was asked when many waited is nothing to what is asked when few do, and the other way round. */
    private static void whatWasAskedBeforeDoesNotMatter() {
        String asked = "orders | most -2 | most 0 | halvings | more 0 | lacks 0 | together 0 | grows 0 | twoMills 0 | twoMills 1";
        Story.laid("s0,9,0,0;s1,1,0,0;s0,1,0,0;", "most -2", "sell 1", "sell 2").due("most -2", 9);
        for (String law : new String[] {"l0;", "l1;"}) {
            Story many = Story.laid(EIGHT + law, "halve 0 1", "halve 0 1");
            Story manyAsked = many.then(asked);
            for (int i = 9; i >= 1; i--) {
                many = many.then("sell " + i);
                manyAsked = manyAsked.then("sell " + i, asked).same(many);
            }
            many.then("undo", "undo").same(manyAsked.then("undo", asked, "undo"));
        }
    }
}
