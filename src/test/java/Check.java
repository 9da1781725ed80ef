/** Counts the answers that are not as due, and writes texts into mills. */
final class Check {
    private static int calls = 0;
    private static int wrong = 0;

    private Check() { }

    static void due(String call, long got, long want) {
        calls++;
        if (got != want) {
            wrong++;
            System.out.println(call + " answered " + got + ", due is " + want);
        }
    }

    static void isTrue(String what, boolean holds) {
        due(what, holds ? 1 : 0, 1);
    }

    /** Makes a text of characters 0 to 255 THE TEXT. */
    static void tell(MixedMill mill, String text) {
        mill.wipe();
        add(mill, text);
    }

    /** Writes a text behind THE TEXT, up to eight bytes a call: what the last of these calls answered. */
    static int add(MixedMill mill, String text) {
        int answer = mill.count(7);
        for (int from = 0; from < text.length(); from += 8) {
            int to = Math.min(text.length(), from + 8);
            long v = 0;
            for (int p = from; p < to; p++) {
                v = v << 8 | text.charAt(p);
            }
            answer = mill.write(to - from, v);
        }
        return answer;
    }

    static MixedMill laid(String text) {
        MixedMill mill = new MixedMill();
        tell(mill, text);
        isTrue("lay() of " + text, mill.lay() > 0);
        return mill;
    }

    static int wrongSoFar() {
        return wrong;
    }

    static void end() {
        System.out.println(calls + " answers looked at, " + wrong + " not as due");
        if (wrong != 0 || calls == 0) {
            System.exit(1);
        }
    }
}
