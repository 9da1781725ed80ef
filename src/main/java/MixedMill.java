import java.util.Arrays;

/** A mill that stops if two sacks of one kind are poured one after the other. */
public final class MixedMill {
    public static final int BAD = -1, NO = -2, FULL = -3, NONE = -4;

    private static final int KINDS = 5;
    private static final int OWNERS = 5;
    private static final int SIZE_MOST = 9;
    private static final int SACKS_TOLD = 8;
    private static final int SACKS_MOST = 10;
    private static final int TEXT_MOST = 300;
    private static final int UNDO_MOST = 8;
    private static final int KEPT_MOST = 2;
    private static final int LAW_ONE = 0;
    private static final int LAW_TWO = 1;
    private static final int PRICE_UNTOLD = 5;
    private static final int WAITS = 0;
    private static final int POURED = 1;
    private static final int SOLD = 2;
    /** Stands where a kind would, as long as no sack was poured there. */
    private static final int NOTHING = KINDS;
    /** The last kind and the one ahead of it are one number below SPAN * SPAN. */
    private static final int SPAN = KINDS + 1;
    private static final int MEMORIES = SPAN * SPAN;
    /** An hour that no mill reaches. */
    private static final int NEVER = 1000000;
    private static final int YEAR_DRAWS = 9999;
    private static final int YEAR_SACKS = 100;

    private final byte[] text;
    private int textLength;
    private final Reader reader;
    /** What the text tells is read into this one first, so that a fault changes nothing. */
    private final Mill told;
    private final Mill mill;
    private final Mill[] past;
    private int pastCount;
    private final Mill[] kept;
    private int keptCount;
    private final int[] line;
    private int lineLength;
    private final Ahead ahead;
    private final Hours hours;
    private final Pairs pairs;
    private final Year drawn;

    public MixedMill() {
        text = new byte[TEXT_MOST];
        reader = new Reader();
        told = new Mill();
        mill = new Mill();
        past = new Mill[UNDO_MOST];
        for (int p = 0; p < UNDO_MOST; p++) {
            past[p] = new Mill();
        }
        kept = new Mill[KEPT_MOST];
        for (int k = 0; k < KEPT_MOST; k++) {
            kept[k] = new Mill();
        }
        line = new int[SACKS_MOST];
        ahead = new Ahead();
        hours = new Hours();
        pairs = new Pairs();
        drawn = new Year();
        mill.add(0, 2, 0, 0);
        mill.add(1, 3, 1, 0);
        mill.add(0, 1, 0, 5);
    }

    // ---- mills

    public int write(int n, long v) {
        if (n < 1 || n > 8) {
            return BAD;
        }
        if (textLength + n > TEXT_MOST) {
            return FULL;
        }
        for (int b = n - 1; b >= 0; b--) {
            text[textLength] = (byte) (v >> (8 * b));
            textLength++;
        }
        return textLength;
    }

    public int wipe() {
        int length = textLength;
        textLength = 0;
        return length;
    }

    public int fault() {
        return reader.read(text, textLength, told);
    }

    public int lay() {
        if (reader.read(text, textLength, told) != NONE || told.sacks == 0) {
            return NO;
        }
        mill.copyFrom(told);
        lineLength = 0;
        pastCount = 0;
        keptCount = 0;
        return mill.sacks;
    }

    public int sack(int i, int what) {
        if (!mill.has(i)) {
            return BAD;
        }
        switch (what) {
            case 0: return mill.kind[i];
            case 1: return mill.size[i];
            case 2: return mill.owner[i];
            case 3: return mill.comes[i];
            case 4: return mill.state[i];
            default: return BAD;
        }
    }

    // ---- pouring

    public int may(int i) {
        if (!mill.has(i)) {
            return BAD;
        }
        if (!mill.waits(i)) {
            return NO;
        }
        return mill.fitsNow(i) ? 1 : 0;
    }

    public int pour(int i) {
        if (!mill.has(i)) {
            return BAD;
        }
        if (!mill.waits(i) || !mill.fitsNow(i)) {
            return NO;
        }
        remember();
        lineLength = 0;
        mill.setPoured(i);
        return mill.hour;
    }

    public int halve(int i, int s) {
        if (!mill.has(i) || s < 1 || s >= SIZE_MOST) {
            return BAD;
        }
        if (!mill.waits(i) || mill.size[i] <= s) {
            return NO;
        }
        if (mill.sacks >= SACKS_MOST) {
            return FULL;
        }
        remember();
        mill.part(i, s);
        return mill.sacks - 1;
    }

    public int sell(int i) {
        if (!mill.has(i)) {
            return BAD;
        }
        if (!mill.waits(i)) {
            return NO;
        }
        remember();
        lineLength = 0;
        mill.state[i] = SOLD;
        return mill.size[i];
    }

    public int undo() {
        if (pastCount <= 0) {
            return NO;
        }
        pastCount--;
        mill.copyFrom(past[pastCount]);
        lineLength = 0;
        return pastCount;
    }

    public int cost() {
        return mill.spent;
    }

    /** Keeps the mill as it is for undo; the oldest one makes room, if there is none. */
    private void remember() {
        if (pastCount >= UNDO_MOST) {
            Mill oldest = past[0];
            for (int p = 1; p < UNDO_MOST; p++) {
                past[p - 1] = past[p];
            }
            past[UNDO_MOST - 1] = oldest;
            pastCount = UNDO_MOST - 1;
        }
        past[pastCount].copyFrom(mill);
        pastCount++;
    }

    // ---- queues

    public int queue(int i) {
        if (!mill.has(i)) {
            return BAD;
        }
        if (!mill.waits(i) || isInLine(i) || lineLength >= SACKS_MOST) {
            return NO;
        }
        line[lineLength] = i;
        lineLength++;
        return lineLength;
    }

    public int noQueue() {
        int length = lineLength;
        lineLength = 0;
        return length;
    }

    public int stops(int what) {
        switch (what) {
            case 0: return stopsNowhere() ? NONE : stopPlace();
            case 1: return lineEnds();
            case 2: return bread();
            default: return BAD;
        }
    }

    private boolean isInLine(int i) {
        for (int p = 0; p < lineLength; p++) {
            if (line[p] == i) {
                return true;
            }
        }
        return false;
    }

    /** The place in the line at which the mill stops; the line's length, if at none. */
    private int stopPlace() {
        int last = mill.last;
        int before = mill.before;
        for (int p = 0; p < lineLength; p++) {
            int kind = mill.kindOf(line[p]);
            if (!fits(kind, last, before)) {
                return p;
            }
            before = heldBefore(mill.law, last);
            last = kind;
        }
        return lineLength;
    }

    private boolean stopsNowhere() {
        return stopPlace() >= lineLength;
    }

    private int lineEnds() {
        int stop = stopPlace();
        int hour = mill.hour;
        for (int p = 0; p < stop; p++) {
            hour = mill.hourAfter(hour, line[p]);
        }
        return hour;
    }

    private int bread() {
        int places = 0;
        for (int p = 2; p < lineLength; p++) {
            int a = mill.kindOf(line[p - 2]);
            int b = mill.kindOf(line[p - 1]);
            int c = mill.kindOf(line[p]);
            if (a != b && b != c && a != c) {
                places++;
            }
        }
        return places;
    }

    // ---- orders

    public long orders() {
        ahead.takeAll(mill);
        return ahead.countWays(mill);
    }

    public int most(int i) {
        if (i < -2) {
            return BAD;
        }
        ahead.takeAll(mill);
        int longest = ahead.longest(mill);
        if (i == -1) {
            return longest;
        }
        if (i == -2) {
            return hours.soonest(mill, longest);
        }
        return i < longest ? ahead.rowSack(mill, i) : NONE;
    }

    public int halvings() {
        if (mill.law == LAW_TWO) {
            return NO;
        }
        return ahead.fewestHalvings(mill);
    }

    public int more(int kind) {
        if (!isKind(kind)) {
            return BAD;
        }
        ahead.takeAll(mill);
        int without = ahead.longest(mill);
        ahead.addOne(kind);
        return ahead.longest(mill) - without;
    }

    public int lacks(int kind) {
        if (!isKind(kind)) {
            return BAD;
        }
        ahead.takeAll(mill);
        int with = ahead.longest(mill);
        ahead.dropKind(kind);
        return with - ahead.longest(mill);
    }

    // ---- owners

    public int together(int i) {
        if (i != -1 && !isOwner(i)) {
            return BAD;
        }
        pairs.find(mill, ahead);
        return i == -1 ? pairs.bestCount : pairs.partnerOf(i);
    }

    public int grows(int owner) {
        if (!isOwner(owner)) {
            return BAD;
        }
        if (!mill.isWaitedFor(owner)) {
            return NONE;
        }
        int best = NONE;
        int greatest = -1;
        for (int kind = 0; kind < KINDS; kind++) {
            ahead.takeGrown(mill, owner, kind);
            int longest = ahead.longest(mill);
            if (longest > greatest) {
                greatest = longest;
                best = kind;
            }
        }
        return best;
    }

    public int twoMills(int what) {
        if (what != 0 && what != 1) {
            return BAD;
        }
        if (!hours.partBetweenTwo(mill)) {
            return NONE;
        }
        return what == 0 ? hours.bothDone : hours.partHere;
    }

    // ---- years

    public int year(int z, int n, int what) {
        if (z < 0 || z > YEAR_DRAWS || n < 1 || n > YEAR_SACKS || what < 0 || what > 1) {
            return BAD;
        }
        drawn.start(mill.law);
        for (int k = 0; k < n; k++) {
            drawn.bring(drawnKind(z, k));
        }
        return what == 0 ? drawn.poured : n - drawn.poured;
    }

    public int keep() {
        if (keptCount >= KEPT_MOST) {
            return FULL;
        }
        kept[keptCount].copyFrom(mill);
        keptCount++;
        return keptCount;
    }

    public int back() {
        if (keptCount <= 0) {
            return NO;
        }
        keptCount--;
        mill.copyFrom(kept[keptCount]);
        lineLength = 0;
        pastCount = 0;
        return keptCount;
    }

    public int count(int what) {
        switch (what) {
            case 0: return mill.sacks;
            case 1: return mill.howMany(WAITS);
            case 2: return mill.howMany(POURED);
            case 3: return mill.hour;
            case 4: return lineLength;
            case 5: return pastCount;
            case 6: return keptCount;
            case 7: return textLength;
            default: return BAD;
        }
    }

    private static int drawnKind(int z, int k) {
        long x = 7919L * z + 6151L * k + 1;
        return (int) (x * x % 65521 % KINDS);
    }

    private static boolean isKind(int kind) {
        return kind >= 0 && kind < KINDS;
    }

    private static boolean isOwner(int owner) {
        return owner >= 0 && owner < OWNERS;
    }

    private static boolean fits(int kind, int last, int before) {
        return kind != last && kind != before;
    }

    /** The kind ahead of the last one, when the next is poured; by ONE none is held on to. */
    private static int heldBefore(int law, int last) {
        return law == LAW_TWO ? last : NOTHING;
    }

    /** The first that can be ahead of the last one in a memory; NOTHING always can. */
    private static int firstBefore(int law) {
        return law == LAW_TWO ? 0 : NOTHING;
    }

    private static int memoryOf(int last, int before) {
        return last * SPAN + before;
    }

    /** Grows at least twofold, so that all rows an object ever makes stay few and small. */
    private static int[] roomFor(int[] row, int length) {
        return row.length >= length ? row : new int[Math.max(length, 2 * row.length)];
    }

    /** The sacks, how they are, and what the mill holds on to. */
    private static final class Mill {
        private int law;
        private int price;
        private int sacks;
        private final int[] kind = new int[SACKS_MOST];
        private final int[] size = new int[SACKS_MOST];
        private final int[] owner = new int[SACKS_MOST];
        private final int[] comes = new int[SACKS_MOST];
        private final int[] state = new int[SACKS_MOST];
        private int hour;
        private int last;
        private int before;
        private int spent;

        private Mill() {
            clear();
        }

        private void clear() {
            law = LAW_ONE;
            price = PRICE_UNTOLD;
            sacks = 0;
            hour = 0;
            last = NOTHING;
            before = NOTHING;
            spent = 0;
        }

        private void copyFrom(Mill other) {
            law = other.law;
            price = other.price;
            sacks = other.sacks;
            System.arraycopy(other.kind, 0, kind, 0, SACKS_MOST);
            System.arraycopy(other.size, 0, size, 0, SACKS_MOST);
            System.arraycopy(other.owner, 0, owner, 0, SACKS_MOST);
            System.arraycopy(other.comes, 0, comes, 0, SACKS_MOST);
            System.arraycopy(other.state, 0, state, 0, SACKS_MOST);
            hour = other.hour;
            last = other.last;
            before = other.before;
            spent = other.spent;
        }

        private void add(int itsKind, int itsSize, int itsOwner, int itsHour) {
            if (sacks >= SACKS_MOST) {
                return;
            }
            kind[sacks] = itsKind;
            size[sacks] = itsSize;
            owner[sacks] = itsOwner;
            comes[sacks] = itsHour;
            state[sacks] = WAITS;
            sacks++;
        }

        private boolean has(int i) {
            return i >= 0 && i < sacks && i < SACKS_MOST;
        }

        private boolean waits(int i) {
            return has(i) && state[i] == WAITS;
        }

        private int kindOf(int i) {
            return has(i) ? kind[i] : NOTHING;
        }

        private boolean fitsNow(int i) {
            return fits(kindOf(i), last, before);
        }

        private int memoryNow() {
            return memoryOf(last, before);
        }

        /** When sack i is through, if the one ahead of it was at this hour. */
        private int hourAfter(int from, int i) {
            return has(i) ? Math.max(from, comes[i]) + size[i] : from;
        }

        private void setPoured(int i) {
            if (!has(i)) {
                return;
            }
            hour = hourAfter(hour, i);
            before = heldBefore(law, last);
            last = kind[i];
            state[i] = POURED;
        }

        private void part(int i, int s) {
            if (!has(i)) {
                return;
            }
            add(kind[i], s, owner[i], comes[i]);
            size[i] -= s;
            spent += price;
        }

        private int howMany(int how) {
            int found = 0;
            for (int i = 0; i < SACKS_MOST; i++) {
                if (has(i) && state[i] == how) {
                    found++;
                }
            }
            return found;
        }

        private boolean isWaitedFor(int who) {
            for (int i = 0; i < SACKS_MOST; i++) {
                if (waits(i) && owner[i] == who) {
                    return true;
                }
            }
            return false;
        }
    }

    /** Reads a text, item by item. */
    private static final class Reader {
        private static final int NUMBERS_MOST = 4;

        private final int[] number = new int[NUMBERS_MOST];
        private int place;

        /** Reads all into a mill: the place of the first item with a fault, or NONE. */
        private int read(byte[] bytes, int length, Mill into) {
            into.clear();
            place = 0;
            for (int items = 0; items < TEXT_MOST && place < length; items++) {
                int start = place;
                if (!readItem(bytes, length, into)) {
                    return start;
                }
            }
            return NONE;
        }

        private boolean readItem(byte[] bytes, int length, Mill into) {
            if (place >= length || place >= bytes.length) {
                return false;
            }
            int letter = bytes[place];
            place++;
            switch (letter) {
                case 's': return readNumbers(bytes, length, 4) && takeSack(into);
                case 'l': return readNumbers(bytes, length, 1) && takeLaw(into);
                case 'c': return readNumbers(bytes, length, 1) && takePrice(into);
                default: return false;
            }
        }

        private boolean readNumbers(byte[] bytes, int length, int wanted) {
            for (int k = 0; k < wanted && k < NUMBERS_MOST; k++) {
                number[k] = readNumber(bytes, length);
                int sign = k + 1 < wanted ? ',' : ';';
                if (number[k] < 0 || !isSign(bytes, length, sign)) {
                    return false;
                }
                place++;
            }
            return true;
        }

        /** A number of one or two figures; below 0, if there is none. */
        private int readNumber(byte[] bytes, int length) {
            int value = -1;
            for (int figures = 0; figures < 2 && isFigure(bytes, length); figures++) {
                value = Math.max(value, 0) * 10 + (bytes[place] - '0');
                place++;
            }
            return value;
        }

        private boolean isFigure(byte[] bytes, int length) {
            return place < length && place < bytes.length && bytes[place] >= '0' && bytes[place] <= '9';
        }

        private boolean isSign(byte[] bytes, int length, int sign) {
            return place < length && place < bytes.length && bytes[place] == sign;
        }

        private boolean takeSack(Mill into) {
            if (into.sacks >= SACKS_TOLD || !isKind(number[0]) || !isOwner(number[2])
                    || number[1] < 1 || number[1] > SIZE_MOST) {
                return false;
            }
            into.add(number[0], number[1], number[2], number[3]);
            return true;
        }

        private boolean takeLaw(Mill into) {
            if (number[0] != LAW_ONE && number[0] != LAW_TWO) {
                return false;
            }
            into.law = number[0];
            return true;
        }

        private boolean takePrice(Mill into) {
            into.price = number[0];
            return true;
        }
    }

    /**
     * What can be poured from now on, by how many sacks there are of each kind.
     * How many are left of each kind is one number, the index: left[k] * weight[k] together.
     * There is an answer for each index and each memory; fewer sacks have a lower index.
     */
    private static final class Ahead {
        private final int[] amount = new int[KINDS];
        private final int[] weight = new int[KINDS];
        private final int[] left = new int[KINDS];
        private int indexes;
        private int[] answers = new int[0];

        private void takeNone() {
            Arrays.fill(amount, 0);
        }

        private void addOne(int kind) {
            if (isKind(kind)) {
                amount[kind]++;
            }
        }

        private void dropKind(int kind) {
            if (isKind(kind)) {
                amount[kind] = 0;
            }
        }

        private void takeAll(Mill mill) {
            takeNone();
            for (int i = 0; i < SACKS_MOST; i++) {
                if (mill.waits(i)) {
                    addOne(mill.kindOf(i));
                }
            }
        }

        private void takeOwners(Mill mill, int one, int other) {
            takeNone();
            for (int i = 0; i < SACKS_MOST; i++) {
                if (mill.waits(i) && (mill.owner[i] == one || mill.owner[i] == other)) {
                    addOne(mill.kindOf(i));
                }
            }
        }

        private void takeGrown(Mill mill, int owner, int kind) {
            takeNone();
            for (int i = 0; i < SACKS_MOST; i++) {
                if (mill.waits(i)) {
                    addOne(mill.owner[i] == owner ? kind : mill.kindOf(i));
                }
            }
        }

        private int total() {
            int sum = 0;
            for (int k = 0; k < KINDS; k++) {
                sum += amount[k];
            }
            return sum;
        }

        private void weigh() {
            indexes = 1;
            for (int k = 0; k < KINDS; k++) {
                weight[k] = indexes;
                indexes *= amount[k] + 1;
            }
        }

        private void unfold(int index) {
            int rest = index;
            for (int k = KINDS - 1; k >= 0; k--) {
                left[k] = weight[k] > 0 ? rest / weight[k] : 0;
                rest -= left[k] * weight[k];
            }
        }

        /** How many of the sacks taken can be poured, at the most. */
        private int longest(Mill mill) {
            return fillAnswers(mill, false);
        }

        /** In how many orders of kinds all of the sacks taken can be poured. */
        private int countWays(Mill mill) {
            return fillAnswers(mill, true);
        }

        private int fillAnswers(Mill mill, boolean counting) {
            weigh();
            answers = roomFor(answers, indexes * MEMORIES);
            for (int index = 0; index < indexes; index++) {
                unfold(index);
                for (int last = 0; last < SPAN; last++) {
                    for (int before = firstBefore(mill.law); before < SPAN; before++) {
                        int place = index * MEMORIES + memoryOf(last, before);
                        answers[place] = answer(index, mill.law, last, before, counting);
                    }
                }
            }
            return answerAt(indexes - 1, mill.memoryNow());
        }

        /** From the answers behind each kind that may come next. */
        private int answer(int index, int law, int last, int before, boolean counting) {
            int value = counting && index == 0 ? 1 : 0;
            int held = heldBefore(law, last);
            for (int k = 0; k < KINDS; k++) {
                if (left[k] > 0 && fits(k, last, before)) {
                    int behind = answerAt(index - weight[k], memoryOf(k, held));
                    value = counting ? value + behind : Math.max(value, 1 + behind);
                }
            }
            return value;
        }

        private int answerAt(int index, int memory) {
            int place = index * MEMORIES + memory;
            return place >= 0 && place < answers.length ? answers[place] : 0;
        }

        /** The wanted sack of the first row of most sacks; longest must have been asked just now. */
        private int rowSack(Mill mill, int wanted) {
            int last = mill.last;
            int before = mill.before;
            int index = indexes - 1;
            int used = 0;
            int found = NONE;
            for (int step = 0; step <= wanted && step < SACKS_MOST; step++) {
                found = nextInRow(mill, used, index, last, before);
                int kind = mill.kindOf(found);
                if (!isKind(kind)) {
                    return NONE;
                }
                used |= 1 << found;
                index -= weight[kind];
                before = heldBefore(mill.law, last);
                last = kind;
            }
            return found;
        }

        /** The lowest sack behind which as many as ever can be poured still can. */
        private int nextInRow(Mill mill, int used, int index, int last, int before) {
            int rest = answerAt(index, memoryOf(last, before));
            int held = heldBefore(mill.law, last);
            for (int i = 0; i < SACKS_MOST; i++) {
                int kind = mill.kindOf(i);
                if (mill.waits(i) && (used >> i & 1) == 0 && isKind(kind)
                        && fits(kind, last, before)
                        && 1 + answerAt(index - weight[kind], memoryOf(kind, held)) == rest) {
                    return i;
                }
            }
            return NONE;
        }

        /**
         * By ONE all can be poured, if no kind has more sacks than the others and one,
         * or than the others, if it was poured last. No two kinds can be too many at once,
         * and halving as many of the others as are short makes none of them too many.
         */
        private int fewestHalvings(Mill mill) {
            takeAll(mill);
            int all = total();
            for (int k = 0; k < KINDS; k++) {
                int others = all - amount[k];
                int wanted = k == mill.last ? amount[k] : amount[k] - 1;
                if (wanted > others) {
                    return wanted <= sizesBeside(mill, k) ? wanted - others : NONE;
                }
            }
            return 0;
        }

        /** Into how many sacks all that wait of other kinds can be halved. */
        private static int sizesBeside(Mill mill, int kind) {
            int sum = 0;
            for (int i = 0; i < SACKS_MOST; i++) {
                if (mill.waits(i) && mill.kind[i] != kind) {
                    sum += mill.size[i];
                }
            }
            return sum;
        }
    }

    /**
     * The least hours by which sets of the sacks that wait can be poured.
     * Bit j of a set is the j-th sack that waits.
     */
    private static final class Hours {
        private final int[] sackAt = new int[SACKS_MOST];
        private final int[] kind = new int[SACKS_MOST];
        private final int[] size = new int[SACKS_MOST];
        private final int[] comes = new int[SACKS_MOST];
        private int waiting;
        private int sets;
        /** Those that wait and are not in the set looked at. */
        private final int[] rest = new int[SACKS_MOST];
        private int restCount;
        /** By set and memory: a later hour with the same memory is never of use. */
        private int[] least = new int[0];
        private int[] here = new int[0];
        private int[] there = new int[0];
        private int bothDone;
        private int partHere;

        /** The least hour at which so many can have been poured. */
        private int soonest(Mill mill, int many) {
            takeWaiting(mill);
            here = roomFor(here, sets);
            fillEnds(mill.law, mill.hour, mill.memoryNow(), here);
            int best = NEVER;
            for (int set = 0; set < sets && set < here.length; set++) {
                if (Integer.bitCount(set) == many) {
                    best = Math.min(best, here[set]);
                }
            }
            return best;
        }

        /** Whether all can be parted between this mill and an unused one; finds the best way. */
        private boolean partBetweenTwo(Mill mill) {
            takeWaiting(mill);
            here = roomFor(here, sets);
            there = roomFor(there, sets);
            fillEnds(mill.law, mill.hour, mill.memoryNow(), here);
            fillEnds(mill.law, 0, memoryOf(NOTHING, NOTHING), there);
            bothDone = NEVER;
            partHere = 0;
            for (int set = 0; set < sets && set < here.length && set < there.length; set++) {
                int done = Math.max(here[set], there[sets - 1 - set]);
                if (done < bothDone) {
                    bothDone = done;
                    partHere = sackBits(set);
                }
            }
            return bothDone < NEVER;
        }

        private void takeWaiting(Mill mill) {
            waiting = 0;
            for (int i = 0; i < SACKS_MOST && waiting < SACKS_MOST; i++) {
                if (mill.waits(i)) {
                    sackAt[waiting] = i;
                    kind[waiting] = mill.kind[i];
                    size[waiting] = mill.size[i];
                    comes[waiting] = mill.comes[i];
                    waiting++;
                }
            }
            sets = 1 << waiting;
        }

        private int sackBits(int set) {
            int bits = 0;
            for (int j = 0; j < waiting; j++) {
                if ((set >> j & 1) != 0) {
                    bits |= 1 << sackAt[j];
                }
            }
            return bits;
        }

        /** For each set the least hour when just it is poured; NEVER, if it can't be. */
        private void fillEnds(int law, int hour, int start, int[] ends) {
            least = roomFor(least, sets * MEMORIES);
            Arrays.fill(least, NEVER);
            if (start >= 0 && start < MEMORIES) {
                least[start] = hour;
            }
            for (int set = 0; set < sets && set < ends.length; set++) {
                takeRest(set);
                ends[set] = NEVER;
                for (int last = 0; last < SPAN; last++) {
                    for (int before = firstBefore(law); before < SPAN; before++) {
                        int reached = least[set * MEMORIES + memoryOf(last, before)];
                        if (reached < NEVER) {
                            ends[set] = Math.min(ends[set], reached);
                            pourOneMore(set, last, before, heldBefore(law, last), reached);
                        }
                    }
                }
            }
        }

        private void takeRest(int set) {
            restCount = 0;
            for (int j = 0; j < waiting; j++) {
                if ((set >> j & 1) == 0) {
                    rest[restCount] = j;
                    restCount++;
                }
            }
        }

        private void pourOneMore(int set, int last, int before, int held, int reached) {
            for (int r = 0; r < restCount; r++) {
                int j = rest[r];
                if (kind[j] != last && kind[j] != before) {
                    int place = (set | 1 << j) * MEMORIES + kind[j] * SPAN + held;
                    int done = (comes[j] > reached ? comes[j] : reached) + size[j];
                    if (place >= 0 && place < least.length && done < least[place]) {
                        least[place] = done;
                    }
                }
            }
        }
    }

    /** Which owners should come together. */
    private static final class Pairs {
        private final boolean[] pairable = new boolean[OWNERS * OWNERS];
        private final int[] partner = new int[OWNERS];
        private final int[] best = new int[OWNERS];
        private int bestCount;

        private void find(Mill mill, Ahead ahead) {
            for (int one = 0; one < OWNERS; one++) {
                for (int other = one + 1; other < OWNERS; other++) {
                    pairable[one * OWNERS + other] = isPair(mill, ahead, one, other);
                }
            }
            Arrays.fill(partner, NONE);
            bestCount = -1;
            choose(0, 0);
        }

        private static boolean isPair(Mill mill, Ahead ahead, int one, int other) {
            if (!mill.isWaitedFor(one) || !mill.isWaitedFor(other)) {
                return false;
            }
            ahead.takeOwners(mill, one, other);
            return ahead.longest(mill) == ahead.total();
        }

        /** Goes through the ways in their order, so that only one of more pairs is better. */
        private void choose(int owner, int count) {
            if (owner >= OWNERS) {
                if (count > bestCount) {
                    bestCount = count;
                    System.arraycopy(partner, 0, best, 0, OWNERS);
                }
                return;
            }
            if (partner[owner] == NONE) {
                for (int other = owner + 1; other < OWNERS; other++) {
                    if (partner[other] == NONE && pairable[owner * OWNERS + other]) {
                        partner[owner] = other;
                        partner[other] = owner;
                        choose(owner + 1, count + 1);
                        partner[owner] = NONE;
                        partner[other] = NONE;
                    }
                }
            }
            choose(owner + 1, count);
        }

        private int partnerOf(int owner) {
            return isOwner(owner) ? best[owner] : NONE;
        }
    }

    /** A year at a mill at which nothing was poured. */
    private static final class Year {
        private int law;
        private final int[] putBy = new int[KINDS];
        private int last;
        private int before;
        private int poured;

        private void start(int itsLaw) {
            law = itsLaw;
            Arrays.fill(putBy, 0);
            last = NOTHING;
            before = NOTHING;
            poured = 0;
        }

        private void bring(int kind) {
            if (!isKind(kind)) {
                return;
            }
            if (!fits(kind, last, before)) {
                putBy[kind]++;
                return;
            }
            take(kind);
            int next = lowestPutBy();
            for (int turn = 0; turn < YEAR_SACKS && isKind(next); turn++) {
                putBy[next]--;
                take(next);
                next = lowestPutBy();
            }
        }

        private void take(int kind) {
            before = heldBefore(law, last);
            last = kind;
            poured++;
        }

        /** The lowest kind put by that may be poured, or NONE. */
        private int lowestPutBy() {
            for (int k = 0; k < KINDS; k++) {
                if (putBy[k] > 0 && fits(k, last, before)) {
                    return k;
                }
            }
            return NONE;
        }
    }
}
