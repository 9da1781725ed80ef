/** Counts the answers that are not as due, and writes texts into mills. */
final class Check {
    private static int calls = 0;
    private static int wrong = 0;

    private Check() { }

    static void due(String call, long got, long want) {
        calls++;
        if (got != want) {
            wrong++;
            System.out.println(call + " answered " + got + ", due is " + want);
        }
    }

    static void isTrue(String what, boolean holds) {
        due(what, holds ? 1 : 0, 1);
    }

    /** Writes a text of characters 0 to 255, up to eight a call. */
    static void tell(MixedMill mill, String text) {
        mill.wipe();
        for (int from = 0; from < text.length(); from += 8) {
            int to = Math.min(text.length(), from + 8);
            long v = 0;
            for (int p = from; p < to; p++) {
                v = v << 8 | text.charAt(p);
            }
            mill.write(to - from, v);
        }
    }

    static MixedMill laid(String text) {
        MixedMill mill = new MixedMill();
        tell(mill, text);
        isTrue("lay() of " + text, mill.lay() > 0);
        return mill;
    }

    static int wrongSoFar() {
        return wrong;
    }

    static void end() {
        System.out.println(calls + " answers looked at, " + wrong + " not as due");
        if (wrong != 0 || calls == 0) {
            System.exit(1);
        }
    }
}
