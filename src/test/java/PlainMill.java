import java.util.ArrayDeque;
import java.util.ArrayList;
import java.util.Arrays;
import java.util.HashMap;
import java.util.List;
import java.util.Map;
import java.util.TreeSet;
import java.util.regex.Matcher;
import java.util.regex.Pattern;

/** The document once more, by trying everything: slow, and sharing nothing with MixedMill but its author's reading. */
final class PlainMill {
    static final int BAD = -1, NO = -2, FULL = -3, NONE = -4;

    record Sack(int kind, int size, int owner, int hour, int state) {
        Sack in(int newState) {
            return new Sack(kind, size, owner, hour, newState);
        }
    }

    record State(List<Sack> sacks, List<Integer> poured, int hour, int cost) { }

    private static final Pattern ITEM = Pattern.compile(
            "s(\\d\\d?),(\\d\\d?),(\\d\\d?),(\\d\\d?);|l(\\d\\d?);|c(\\d\\d?);");

    private final StringBuilder text = new StringBuilder();
    private List<Sack> sacks = new ArrayList<>();
    private List<Integer> poured = new ArrayList<>();
    private int hour = 0;
    private int spent = 0;
    private int law = 0;
    private int price = 5;
    private final ArrayDeque<State> past = new ArrayDeque<>();
    private final ArrayDeque<State> kept = new ArrayDeque<>();
    private final List<Integer> line = new ArrayList<>();

    private List<Sack> readSacks;
    private int readLaw;
    private int readPrice;

    PlainMill() {
        sacks.add(new Sack(0, 2, 0, 0, 0));
        sacks.add(new Sack(1, 3, 1, 0, 0));
        sacks.add(new Sack(0, 1, 0, 5, 0));
    }

    int write(int n, long v) {
        if (n < 1 || n > 8) return BAD;
        if (text.length() + n > 300) return FULL;
        String hex = String.format("%016x", v).substring(16 - 2 * n);
        for (int b = 0; b < n; b++) text.append((char) Integer.parseInt(hex.substring(2 * b, 2 * b + 2), 16));
        return text.length();
    }

    int wipe() {
        int was = text.length();
        text.setLength(0);
        return was;
    }

    int fault() {
        readSacks = new ArrayList<>();
        readLaw = 0;
        readPrice = 5;
        Matcher m = ITEM.matcher(text);
        int at = 0;
        while (at < text.length()) {
            if (!m.region(at, text.length()).lookingAt()) return at;
            if (m.group(1) != null) {
                Sack s = new Sack(num(m, 1), num(m, 2), num(m, 3), num(m, 4), 0);
                if (s.kind > 4 || s.size < 1 || s.size > 9 || s.owner > 4 || readSacks.size() == 8) return at;
                readSacks.add(s);
            } else if (m.group(5) != null) {
                if (num(m, 5) > 1) return at;
                readLaw = num(m, 5);
            } else {
                readPrice = num(m, 6);
            }
            at = m.end();
        }
        return NONE;
    }

    private static int num(Matcher m, int g) {
        return Integer.parseInt(m.group(g));
    }

    int lay() {
        if (fault() != NONE || readSacks.isEmpty()) return NO;
        sacks = readSacks;
        law = readLaw;
        price = readPrice;
        poured = new ArrayList<>();
        hour = 0;
        spent = 0;
        line.clear();
        past.clear();
        kept.clear();
        return sacks.size();
    }

    int sack(int i, int what) {
        if (i < 0 || i >= sacks.size() || what < 0 || what > 4) return BAD;
        Sack s = sacks.get(i);
        return new int[] {s.kind, s.size, s.owner, s.hour, s.state}[what];
    }

    private boolean allowed(List<Integer> before, int kind) {
        for (int b = 1; b <= law + 1 && b <= before.size(); b++) {
            if (before.get(before.size() - b) == kind) return false;
        }
        return true;
    }

    int may(int i) {
        if (i < 0 || i >= sacks.size()) return BAD;
        if (sacks.get(i).state != 0) return NO;
        return allowed(poured, sacks.get(i).kind) ? 1 : 0;
    }

    private State state() {
        return new State(new ArrayList<>(sacks), new ArrayList<>(poured), hour, spent);
    }

    private void set(State s) {
        sacks = new ArrayList<>(s.sacks);
        poured = new ArrayList<>(s.poured);
        hour = s.hour;
        spent = s.cost;
    }

    private void remember() {
        past.addLast(state());
        if (past.size() > 8) past.removeFirst();
    }

    int pour(int i) {
        int m = may(i);
        if (m != 1) return m == BAD ? BAD : NO;
        remember();
        line.clear();
        Sack s = sacks.get(i);
        hour = Math.max(hour, s.hour) + s.size;
        poured.add(s.kind);
        sacks.set(i, s.in(1));
        return hour;
    }

    int halve(int i, int s) {
        if (i < 0 || i >= sacks.size() || s < 1 || s > 8) return BAD;
        Sack x = sacks.get(i);
        if (x.state != 0 || x.size <= s) return NO;
        if (sacks.size() == 10) return FULL;
        remember();
        sacks.set(i, new Sack(x.kind, x.size - s, x.owner, x.hour, 0));
        sacks.add(new Sack(x.kind, s, x.owner, x.hour, 0));
        spent += price;
        return sacks.size() - 1;
    }

    int sell(int i) {
        if (i < 0 || i >= sacks.size()) return BAD;
        if (sacks.get(i).state != 0) return NO;
        remember();
        line.clear();
        sacks.set(i, sacks.get(i).in(2));
        return sacks.get(i).size;
    }

    int undo() {
        if (past.isEmpty()) return NO;
        set(past.removeLast());
        line.clear();
        return past.size();
    }

    int cost() {
        return spent;
    }

    int queue(int i) {
        if (i < 0 || i >= sacks.size()) return BAD;
        if (sacks.get(i).state != 0 || line.contains(i)) return NO;
        line.add(i);
        return line.size();
    }

    int noQueue() {
        int was = line.size();
        line.clear();
        return was;
    }

    int stops(int what) {
        if (what < 0 || what > 2) return BAD;
        if (what == 2) {
            int bread = 0;
            for (int p = 0; p + 2 < line.size(); p++) {
                TreeSet<Integer> three = new TreeSet<>();
                for (int q = p; q < p + 3; q++) three.add(sacks.get(line.get(q)).kind);
                if (three.size() == 3) bread++;
            }
            return bread;
        }
        List<Integer> done = new ArrayList<>(poured);
        int now = hour;
        for (int p = 0; p < line.size(); p++) {
            Sack s = sacks.get(line.get(p));
            if (!allowed(done, s.kind)) return what == 0 ? p : now;
            done.add(s.kind);
            now = Math.max(now, s.hour) + s.size;
        }
        return what == 0 ? NONE : now;
    }

    /** All rows of some sacks, one after the other, each told to itself as it is found. */
    private final class Rows {
        final List<Sack> of;
        final int[] ends;
        final int[] soonest;
        List<Integer> longest = new ArrayList<>();
        private final List<Integer> row = new ArrayList<>();

        Rows(List<Sack> of, List<Integer> start, int from) {
            this.of = of;
            ends = new int[1 << of.size()];
            soonest = new int[of.size() + 1];
            Arrays.fill(ends, Integer.MAX_VALUE);
            Arrays.fill(soonest, Integer.MAX_VALUE);
            go(0, new ArrayList<>(start), from);
        }

        private void go(int set, List<Integer> done, int now) {
            ends[set] = Math.min(ends[set], now);
            soonest[row.size()] = Math.min(soonest[row.size()], now);
            if (row.size() > longest.size()) longest = new ArrayList<>(row);
            for (int i = 0; i < of.size(); i++) {
                Sack s = of.get(i);
                if (s.state != 0 || (set >> i & 1) != 0 || !allowed(done, s.kind)) continue;
                done.add(s.kind);
                row.add(i);
                go(set | 1 << i, done, Math.max(now, s.hour) + s.size);
                row.remove(row.size() - 1);
                done.remove(done.size() - 1);
            }
        }
    }

    private int mostOf(List<Sack> of) {
        return new Rows(of, poured, hour).longest.size();
    }

    private int waiting() {
        int n = 0;
        for (Sack s : sacks) if (s.state == 0) n++;
        return n;
    }

    private int waitingSet() {
        int set = 0;
        for (int i = 0; i < sacks.size(); i++) if (sacks.get(i).state == 0) set |= 1 << i;
        return set;
    }

    long orders() {
        int[] counts = new int[5];
        for (Sack s : sacks) if (s.state == 0) counts[s.kind]++;
        return ordersOf(counts, new ArrayList<>(poured));
    }

    private long ordersOf(int[] counts, List<Integer> done) {
        long sum = 0;
        boolean empty = true;
        for (int k = 0; k < 5; k++) {
            if (counts[k] == 0) continue;
            empty = false;
            if (!allowed(done, k)) continue;
            counts[k]--;
            done.add(k);
            sum += ordersOf(counts, done);
            done.remove(done.size() - 1);
            counts[k]++;
        }
        return empty ? 1 : sum;
    }

    int most(int i) {
        if (i < -2) return BAD;
        Rows rows = new Rows(sacks, poured, hour);
        if (i == -1) return rows.longest.size();
        if (i == -2) return rows.soonest[rows.longest.size()];
        return i < rows.longest.size() ? rows.longest.get(i) : NONE;
    }

    int halvings() {
        if (law == 1) return NO;
        int[] counts = new int[5];
        int[] room = new int[5];
        for (Sack s : sacks) {
            if (s.state == 0) {
                counts[s.kind]++;
                room[s.kind] += s.size - 1;
            }
        }
        int start = poured.isEmpty() ? 5 : poured.get(poured.size() - 1);
        for (int h = 0; h <= 12; h++) {
            if (spread(counts, room, 0, h, start)) return h;
        }
        return NONE;
    }

    private boolean spread(int[] counts, int[] room, int kind, int left, int start) {
        if (kind == 5) return left == 0 && canAll(counts.clone(), start, new HashMap<>());
        for (int more = 0; more <= Math.min(left, room[kind]); more++) {
            counts[kind] += more;
            boolean found = spread(counts, room, kind + 1, left - more, start);
            counts[kind] -= more;
            if (found) return true;
        }
        return false;
    }

    private boolean canAll(int[] counts, int last, Map<String, Boolean> known) {
        String key = Arrays.toString(counts) + last;
        Boolean before = known.get(key);
        if (before != null) return before;
        boolean empty = true;
        boolean found = false;
        for (int k = 0; k < 5 && !found; k++) {
            if (counts[k] == 0) continue;
            empty = false;
            if (k == last) continue;
            counts[k]--;
            found = canAll(counts, k, known);
            counts[k]++;
        }
        known.put(key, found || empty);
        return found || empty;
    }

    int more(int kind) {
        if (kind < 0 || kind > 4) return BAD;
        List<Sack> with = new ArrayList<>(sacks);
        with.add(new Sack(kind, 1, 0, 0, 0));
        return mostOf(with) - mostOf(sacks);
    }

    int lacks(int kind) {
        if (kind < 0 || kind > 4) return BAD;
        List<Sack> without = new ArrayList<>();
        for (Sack s : sacks) if (s.kind != kind) without.add(s);
        return mostOf(sacks) - mostOf(without);
    }

    private boolean pairs(int a, int b) {
        List<Sack> theirs = new ArrayList<>();
        boolean ofA = false;
        boolean ofB = false;
        for (Sack s : sacks) {
            if (s.state != 0 || s.owner != a && s.owner != b) continue;
            theirs.add(s);
            ofA |= s.owner == a;
            ofB |= s.owner == b;
        }
        return ofA && ofB && mostOf(theirs) == theirs.size();
    }

    int together(int i) {
        if (i < -1 || i > 4) return BAD;
        boolean[][] can = new boolean[5][6];
        for (int a = 0; a < 5; a++) for (int b = 0; b < 5; b++) can[a][b] = a != b && pairs(a, b);
        int[] best = null;
        int bestCount = -1;
        for (int way = 0; way < 7776; way++) {
            int[] with = new int[5];
            int rest = way;
            for (int o = 4; o >= 0; o--) {
                with[o] = rest % 6;
                rest /= 6;
            }
            int paired = 0;
            boolean fits = true;
            for (int o = 0; o < 5 && fits; o++) {
                if (with[o] == 5) continue;
                fits = can[o][with[o]] && with[with[o]] == o;
                paired++;
            }
            if (fits && paired / 2 > bestCount) {
                bestCount = paired / 2;
                best = with;
            }
        }
        return i == -1 ? bestCount : best[i] == 5 ? NONE : best[i];
    }

    int grows(int owner) {
        if (owner < 0 || owner > 4) return BAD;
        int best = NONE;
        int greatest = -1;
        for (int k = 0; k < 5; k++) {
            List<Sack> grown = new ArrayList<>();
            boolean his = false;
            for (Sack s : sacks) {
                boolean change = s.state == 0 && s.owner == owner;
                his |= change;
                grown.add(change ? new Sack(k, s.size, s.owner, s.hour, 0) : s);
            }
            if (!his) return NONE;
            int m = mostOf(grown);
            if (m > greatest) {
                greatest = m;
                best = k;
            }
        }
        return best;
    }

    int twoMills(int what) {
        if (what < 0 || what > 1) return BAD;
        int[] here = new Rows(sacks, poured, hour).ends;
        int[] there = new Rows(sacks, new ArrayList<>(), 0).ends;
        int all = waitingSet();
        int best = Integer.MAX_VALUE;
        int set = NONE;
        for (int s = 0; s <= all; s++) {
            if ((s & ~all) != 0) continue;
            int both = Math.max(here[s], there[all & ~s]);
            if (both < best) {
                best = both;
                set = s;
            }
        }
        return set == NONE ? NONE : what == 0 ? best : set;
    }

    int year(int z, int n, int what) {
        if (z < 0 || z > 9999 || n < 1 || n > 100 || what < 0 || what > 1) return BAD;
        List<Integer> done = new ArrayList<>();
        List<Integer> by = new ArrayList<>();
        for (int k = 0; k < n; k++) {
            long x = 7919L * z + 6151L * k + 1;
            int kind = (int) (x * x % 65521 % 5);
            if (!allowed(done, kind)) {
                by.add(kind);
                continue;
            }
            done.add(kind);
            boolean again = true;
            while (again) {
                again = false;
                by.sort(null);
                for (int p = 0; p < by.size() && !again; p++) {
                    if (allowed(done, by.get(p))) {
                        done.add(by.remove(p));
                        again = true;
                    }
                }
            }
        }
        return what == 0 ? done.size() : by.size();
    }

    int keep() {
        if (kept.size() == 2) return FULL;
        kept.addLast(state());
        return kept.size();
    }

    int back() {
        if (kept.isEmpty()) return NO;
        set(kept.removeLast());
        line.clear();
        past.clear();
        return kept.size();
    }

    int count(int what) {
        switch (what) {
            case 0: return sacks.size();
            case 1: return waiting();
            case 2: return poured.size();
            case 3: return hour;
            case 4: return line.size();
            case 5: return past.size();
            case 6: return kept.size();
            case 7: return text.length();
            default: return BAD;
        }
    }
}
