import java.util.ArrayList;
import java.util.List;

/**
 * Calls on a new mill, told as a text: "laid s0,2,0,0; | halve 0 1 | queue 1". Each asking makes a mill
 * of its own, so that what is asked can be refused, and looked behind, without a word of what follows.
 */
final class Story {
    static final int BAD = -1, NO = -2, FULL = -3, NONE = -4;
    /** Numbers that are none of anything. */
    static final int[] FAR_OFF = {Integer.MIN_VALUE, -65536, 65536, Integer.MAX_VALUE};

    private static final String CHANGING = " write wipe lay pour halve sell undo queue noQueue keep back add told laid ";
    private static final int SACKS = 10;

    private final String calls;
    private List<String> picture;

    private Story(String calls) {
        this.calls = calls;
    }

    static Story of(String... calls) {
        return new Story(String.join(" | ", calls));
    }

    static Story laid(String text, String... calls) {
        return new Story("laid " + text).then(calls);
    }

    Story then(String... more) {
        String all = String.join(" | ", more);
        return new Story(calls.isEmpty() ? all : all.isEmpty() ? calls : calls + " | " + all);
    }

    /** The answer is as due; a call that is refused, or that only asks, leaves all as it is. */
    Story due(String call, long want) {
        Check.due(calls + " | " + call, answer(mill(), call), want);
        if (want < 0 || !changes(call)) then(call).same(this);
        return this;
    }

    /** Whatever the answer is: below 0 it is one of these words, and all is left as it is, also by asking. */
    Story refusedOrDone(String call, String words) {
        long got = answer(mill(), call);
        String word = got >= 0 ? "done" : got < NONE ? "" + got : new String[] {"BAD", "NO", "FULL", "NONE"}[(int) -got - 1];
        Check.isTrue(calls + " | " + call + " answered " + word + ", not one of " + words,
                got >= 0 || List.of(words.split(" ")).contains(word));
        if (got < 0 || !changes(call)) then(call).same(this);
        return this;
    }

    private static boolean changes(String call) {
        return CHANGING.contains(" " + call.split(" ")[0] + " ");
    }

    /** The answers to one call with the numbers from first on. */
    Story dues(String call, int first, long... wants) {
        for (int w = 0; w < wants.length; w++) due(call + " " + (first + w), wants[w]);
        return this;
    }

    /** A call is refused with each of these numbers, and with numbers far off. */
    Story bad(String call, int... numbers) {
        for (int n : numbers) due(call.replace("?", "" + n), BAD);
        for (int n : FAR_OFF) due(call.replace("?", "" + n), BAD);
        return this;
    }

    /** Both mills are alike in all that calls can tell. */
    Story same(Story other) {
        List<String> mine = picture();
        List<String> others = other.picture();
        String told = "";
        for (int p = 0; p < Math.max(mine.size(), others.size()) && told.isEmpty(); p++) {
            String a = p < mine.size() ? mine.get(p) : "nothing";
            String b = p < others.size() ? others.get(p) : "nothing";
            if (!a.equals(b)) told = a + ", not " + b;
        }
        Check.isTrue(calls + " is as " + other.calls + ": " + told, told.isEmpty());
        return this;
    }

    /** A new mill, on which all calls have been made. */
    MixedMill mill() {
        MixedMill x = new MixedMill();
        if (calls.isEmpty()) return x;
        for (String call : calls.split(" \\| ")) answer(x, call);
        return x;
    }

    /** What can be seen of the mill, also by undoing, going back, laying, halving, and in the queue. */
    private List<String> picture() {
        if (picture != null) return picture;
        List<String> seen = new ArrayList<>();
        MixedMill now = mill();
        look(seen, "now", now);
        lookAhead(seen, now);
        String undone = "undo";
        for (int u = 1; u <= 9; u++, undone += " | undo") seenBehind(seen, undone);
        seenBehind(seen, "back");
        seenBehind(seen, "back | back");
        seenBehind(seen, "back | back | back");
        seenBehind(seen, "keep | keep | keep");
        seenBehind(seen, "lay");
        seenBehind(seen, "add 0; | lay");
        seenBehind(seen, "wipe | lay");
        StringBuilder queued = new StringBuilder("noQueue");
        StringBuilder halved = new StringBuilder("cost");
        StringBuilder inLine = new StringBuilder("stops 0");
        for (int i = 0; i < SACKS; i++) {
            queued.append(" | queue ").append(i).append(" | stops 0 | stops 1 | stops 2");
            inLine.append(" | queue ").append(i).append(" | stops 0 | stops 1 | stops 2");
            halved.append(" | halve ").append(i).append(" 1 | cost");
        }
        seenBehind(seen, queued.toString());
        seenBehind(seen, inLine.toString());
        seenBehind(seen, halved.toString());
        picture = seen;
        return seen;
    }

    private void seenBehind(List<String> seen, String more) {
        MixedMill x = mill();
        StringBuilder answers = new StringBuilder();
        for (String call : more.split(" \\| ")) answers.append(' ').append(answer(x, call));
        seen.add("behind " + more + " the answers are" + answers);
        look(seen, "behind " + more, x);
    }

    private static void look(List<String> seen, String when, MixedMill x) {
        for (int w = 0; w <= 7; w++) seen.add(when + " count(" + w + ") = " + x.count(w));
        seen.add(when + " cost() = " + x.cost());
        seen.add(when + " fault() = " + x.fault());
        for (int w = 0; w <= 2; w++) seen.add(when + " stops(" + w + ") = " + x.stops(w));
        for (int i = 0; i < SACKS; i++) {
            for (int w = 0; w <= 4; w++) seen.add(when + " sack(" + i + ", " + w + ") = " + x.sack(i, w));
            seen.add(when + " may(" + i + ") = " + x.may(i));
        }
    }

    private static void lookAhead(List<String> seen, MixedMill x) {
        seen.add("orders() = " + x.orders());
        seen.add("halvings() = " + x.halvings());
        for (int i = -2; i < SACKS; i++) seen.add("most(" + i + ") = " + x.most(i));
        for (int k = 0; k < 5; k++) {
            seen.add("more(" + k + ") = " + x.more(k));
            seen.add("lacks(" + k + ") = " + x.lacks(k));
            seen.add("together(" + k + ") = " + x.together(k));
            seen.add("grows(" + k + ") = " + x.grows(k));
        }
        for (int w = 0; w <= 1; w++) {
            seen.add("twoMills(" + w + ") = " + x.twoMills(w));
            seen.add("year(0, 100, " + w + ") = " + x.year(0, 100, w));
        }
    }

    /** A call of the face; write takes its bytes in hex, add writes a text behind THE TEXT. */
    private static long answer(MixedMill x, String call) {
        String name = call.split(" ")[0];
        String rest = call.substring(Math.min(call.length(), name.length() + 1));
        if (name.equals("told") || name.equals("laid")) {
            Check.tell(x, rest);
            return name.equals("laid") ? x.lay() : x.count(7);
        }
        if (name.equals("add")) return Check.add(x, rest);
        String[] words = rest.isEmpty() ? new String[0] : rest.split(" ");
        if (name.equals("write")) {
            return x.write(Integer.parseInt(words[0]), Long.parseUnsignedLong(words[1], 16));
        }
        int[] n = new int[words.length];
        for (int w = 0; w < n.length; w++) n[w] = Integer.parseInt(words[w]);
        switch (n.length) {
            case 0: return answerOfNone(x, name);
            case 1: return answerOfOne(x, name, n[0]);
            case 2: return name.equals("sack") ? x.sack(n[0], n[1]) : x.halve(n[0], n[1]);
            default: return x.year(n[0], n[1], n[2]);
        }
    }

    private static long answerOfNone(MixedMill x, String name) {
        switch (name) {
            case "wipe": return x.wipe();
            case "fault": return x.fault();
            case "lay": return x.lay();
            case "undo": return x.undo();
            case "cost": return x.cost();
            case "noQueue": return x.noQueue();
            case "orders": return x.orders();
            case "halvings": return x.halvings();
            case "keep": return x.keep();
            case "back": return x.back();
            default: throw new IllegalArgumentException(name);
        }
    }

    private static long answerOfOne(MixedMill x, String name, int n) {
        switch (name) {
            case "may": return x.may(n);
            case "pour": return x.pour(n);
            case "sell": return x.sell(n);
            case "queue": return x.queue(n);
            case "stops": return x.stops(n);
            case "most": return x.most(n);
            case "more": return x.more(n);
            case "lacks": return x.lacks(n);
            case "together": return x.together(n);
            case "grows": return x.grows(n);
            case "twoMills": return x.twoMills(n);
            case "count": return x.count(n);
            default: throw new IllegalArgumentException(name);
        }
    }
}
