import java.util.ArrayList;
import java.util.List;

/**
 * "BAD .. NO .. NONE .. FULL. Of several the first; nothing changes then.": each call of the face, with numbers that
 * are told and numbers that are not, at mills in many states. One that is refused, and one that only
 * asks, leaves all as it is; what one is refused with is among the words that its promise has.
 */
public final class RefusalTest {
    private static final int[] NUMBERS = {
        Integer.MIN_VALUE, -65536, -9, -3, -2, -1, 0, 1, 2, 3, 4, 5, 7, 8, 9, 10, 11, 65536, Integer.MAX_VALUE,
    };
    private static final String FIVE = "s0,4,0,0;s1,3,1,2;s0,5,2,9;s2,1,3,0;s1,2,4,0;";
    private static final String EIGHT = "s0,9,0,0;s1,8,1,3;s2,7,2,0;s2,1,3,9;s3,4,4,0;s3,2,0,50;s4,1,1,99;s4,6,2,0;";

    private RefusalTest() { }

    public static void main(String[] args) {
        List<String> calls = calls();
        for (Story state : states()) {
            for (String call : calls) state.refusedOrDone(call, wordsOf(call.split(" ")[0]));
        }
        Check.end();
    }

    private static Story[] states() {
        String text = "c1;".repeat(98);
        return new Story[] {
            Story.of(),
            Story.of("queue 0", "queue 1", "told s1,2,3,4;"),
            Story.of("pour 0", "pour 1", "pour 2", "keep", "keep", "told x"),
            Story.of("sell 0", "sell 1", "sell 2"),
            Story.laid("s0,1,0,0;"),
            Story.laid("s0,1,0,0;s0,1,1,0;s0,1,2,0;s0,1,3,0;c0;", "pour 1", "queue 2"),
            Story.laid("s3,1,0,0;s3,1,1,0;s3,1,2,0;s3,1,3,0;l1;", "queue 2"),
            Story.laid(FIVE + "c7;", "pour 0", "keep", "sell 3", "halve 2 2", "queue 4", "queue 1", "told s3,2,1,4"),
            Story.laid(FIVE + "l1;c7;", "pour 0", "keep", "pour 1", "halve 2 2", "keep", "queue 4", "queue 2", "add " + text),
            Story.laid(EIGHT, "halve 0 1", "queue 5"),
            Story.laid(EIGHT + "l1;c99;", "halve 0 4", "halve 1 4", "queue 9", "queue 8", "queue 0", "keep"),
            Story.laid(EIGHT + "l1;", "sell 0", "pour 2", "pour 4", "pour 1", "pour 3", "halve 7 5", "sell 8", "pour 5",
                    "halve 7 1", "sell 6", "keep", "queue 7", "told c1;l2;"),
        };
    }

    private static List<String> calls() {
        List<String> calls = new ArrayList<>(List.of("wipe", "fault", "lay", "undo", "cost", "noQueue", "orders",
                "halvings", "keep", "back"));
        String[] ofOne = {"may", "pour", "sell", "queue", "stops", "most", "more", "lacks", "together", "grows",
            "twoMills", "count"};
        for (int n : NUMBERS) {
            for (String name : ofOne) calls.add(name + " " + n);
            calls.add("write " + n + " 3b");
            for (int m : new int[] {-1, 0, 1, 4, 5, 8, 9}) {
                calls.add("sack " + n + " " + m);
                calls.add("halve " + n + " " + m);
            }
            calls.add("sack 0 " + n);
            calls.add("halve 0 " + n);
            calls.add("year " + n + " 1 0");
            calls.add("year 1 " + n + " 1");
            calls.add("year 1 1 " + n);
        }
        return calls;
    }

    /** The words that the promise of a call tells. */
    private static String wordsOf(String name) {
        switch (name) {
            case "write": return "BAD FULL";
            case "fault": return "NONE";
            case "lay": case "undo": case "back": return "NO";
            case "keep": return "FULL";
            case "may": case "pour": case "sell": case "queue": return "BAD NO";
            case "halve": return "BAD NO FULL";
            case "stops": case "most": case "together": case "grows": case "twoMills": return "BAD NONE";
            case "halvings": return "NO NONE";
            case "sack": case "more": case "lacks": case "year": case "count": return "BAD";
            default: return "";
        }
    }
}
