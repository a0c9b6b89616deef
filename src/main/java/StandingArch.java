import java.util.Arrays;

/**
 * Arches that stand: a line of pushes must lie within the stones.
 *
 * Three joints i, j, r in a row ask one thing of the push k: the LINE rises at j above the chord from i to r by
 * bend times k by L (both sides times x(r) - x(i)), and the edges leave room for that from some least to some most.
 * Two heights make a chord, so by Helly's theorem in the plane a LINE with a given k exists just if every three
 * joints are content. All questions are therefore answered from the bends of at most 35 triples, in exact longs.
 */
public final class StandingArch {
    public static final int BAD = -1, NOT = -2, FULL = -3, NONE = -4, NULL = -11, CAST = -12, INDEX = -13, SIZE = -14;

    private static final int FEWEST_STONES = 2;
    private static final int MOST_STONES = 6;
    private static final int MOST_JOINTS = MOST_STONES + 1;
    private static final int FARTHEST = 20;
    private static final int HIGHEST = 20;
    private static final int HEAVIEST = 10;
    private static final int WIDEST_SPREAD = 10;
    private static final int MOST_PUSH_PART = 1000;

    private static final int SHEETS = 4;
    private static final int LANES = 3;
    private static final int BYTES = 0;
    private static final int MOST_ITEMS = 28;
    private static final int ITEMS_OF_A_JOINT = 4;

    private static final int MOST_BARS = 4;
    private static final int EDGE_OF_PUSH = 14;

    private static final int TOLD_REFUSED = 100000;
    private static final long HEIGHT_REFUSED = 1000000000000000L;

    private final Arch arch = new Arch();
    private final Triples triples = new Triples(arch);
    private final LeastLine leastLine = new LeastLine(arch);
    private final Bars bars = new Bars(arch);
    private final Sheet[] sheets = new Sheet[SHEETS];
    private final int[] trial = new int[MOST_JOINTS];
    private final Fraction answer = new Fraction();
    private final Fraction worst = new Fraction();

    public StandingArch() {
        arch.renew(FEWEST_STONES);
        for (int s = 0; s < SHEETS; s++) {
            sheets[s] = new Sheet();
        }
    }

    // ---- 1 joints

    public int joints(int n) {
        if (n < FEWEST_STONES || n > MOST_STONES) {
            return BAD;
        }
        arch.renew(n);
        return 1;
    }

    public int at(int i, int x) {
        if (i < 1 || i > arch.last || x < 0 || x > FARTHEST) {
            return BAD;
        }
        if (x <= arch.place[i - 1] || (i < arch.last && x >= arch.place[i + 1])) {
            return NOT;
        }
        int was = arch.place[i];
        arch.place[i] = x;
        return was;
    }

    public int edges(int i, int l, int u) {
        if (!arch.hasJoint(i) || !areEdges(l, u)) {
            return BAD;
        }
        arch.low[i] = l;
        arch.high[i] = u;
        return 1;
    }

    public int load(int i, int w) {
        if (!arch.hasInnerJoint(i) || !isLoad(w)) {
            return BAD;
        }
        int was = arch.weight[i];
        arch.weight[i] = w;
        return was;
    }

    public int sheet(int sheet, int lane, int n) {
        if (!isSheet(sheet) || !isLane(lane) || n > MOST_ITEMS) {
            return BAD;
        }
        if (n < 0) {
            return SIZE;
        }
        sheets[sheet].hold(lane, n);
        return n;
    }

    public int drop(int sheet) {
        if (!isSheet(sheet)) {
            return BAD;
        }
        if (!sheets[sheet].held) {
            return NULL;
        }
        sheets[sheet].held = false;
        return sheets[sheet].size;
    }

    public int item(int sheet, int lane, int i, int v) {
        int refusal = refusalOfRow(sheet, lane);
        if (refusal != 0) {
            return refusal;
        }
        Sheet row = sheets[sheet];
        if (i < 0 || i >= row.size) {
            return INDEX;
        }
        row.items[i] = lane == BYTES ? (byte) v : v;
        return 1;
    }

    public int read(int sheet, int lane, int from) {
        int refusal = refusalOfRow(sheet, lane);
        if (refusal != 0) {
            return refusal;
        }
        Sheet row = sheets[sheet];
        if (from < 0 || from > row.size - ITEMS_OF_A_JOINT * (arch.last + 1)) {
            return INDEX;
        }
        if (!arch.mayTake(row.items, from)) {
            return NOT;
        }
        arch.take(row.items, from);
        return 1;
    }

    public int told(int i, int what) {
        if (!arch.hasJoint(i)) {
            return BAD - TOLD_REFUSED;
        }
        switch (what) {
            case 0:
                return arch.place[i];
            case 1:
                return arch.low[i];
            case 2:
                return arch.high[i];
            case 3:
                return arch.weight[i];
            case 4:
                arch.weigh(arch.weight);
                return arch.moment[i];
            default:
                return BAD - TOLD_REFUSED;
        }
    }

    // ---- 2 lines

    public int stands() {
        return holdsUnder(arch.weight) ? 1 : 0;
    }

    public long thrust(int which, int part) {
        if (!isChoice(which) || !isChoice(part)) {
            return BAD;
        }
        if (!holdsUnder(arch.weight)) {
            return NOT;
        }
        boolean found = which == 0 ? triples.greatestPush(answer) : triples.leastPush(answer);
        if (!found || answer.above == 0) {
            return NONE;
        }
        answer.become(answer.below, answer.above * arch.span());
        return answer.part(part);
    }

    public long height(int i, int part) {
        if (!arch.hasJoint(i) || !isChoice(part)) {
            return BAD - HEIGHT_REFUSED;
        }
        if (!holdsUnder(arch.weight)) {
            return NOT - HEIGHT_REFUSED;
        }
        if (!triples.greatestPush(answer)) {
            return NONE - HEIGHT_REFUSED;
        }
        leastLine.lay(answer);
        leastLine.heightInto(answer, i);
        return answer.part(part);
    }

    public int bar(int i) {
        if (i < -1 || i >= MOST_BARS) {
            return BAD;
        }
        if (holdsUnder(arch.weight)) {
            return NOT;
        }
        bars.find();
        if (i == -1) {
            return bars.count;
        }
        return i < bars.count ? bars.chosen[i] : BAD;
    }

    public int fits(int a, int b, int above, int below) {
        if (!isHeight(a) || !isHeight(b)) {
            return BAD;
        }
        if (above < 0 || above > MOST_PUSH_PART || below < 1 || below > MOST_PUSH_PART) {
            return BAD;
        }
        arch.weigh(arch.weight);
        long span = arch.span();
        for (int i = 0; i <= arch.last; i++) {
            long chord = a * (span - arch.place[i]) + (long) b * arch.place[i];
            long line = chord * below + (long) arch.moment[i] * above;
            if (line < arch.low[i] * span * below || line > arch.high[i] * span * below) {
                return 0;
            }
        }
        return 1;
    }

    // ---- 3 what may become of it

    public long factor(int part) {
        if (!isChoice(part)) {
            return BAD;
        }
        triples.gather(arch.weight);
        if (!triples.leastFactor(answer)) {
            return NONE;
        }
        return answer.part(part);
    }

    public int harms(int p) {
        if (p < 1 || p > HEAVIEST) {
            return BAD;
        }
        int where = 1;
        worst.become(0, 1);
        for (int i = 1; i < arch.last; i++) {
            System.arraycopy(arch.weight, 0, trial, 0, MOST_JOINTS);
            trial[i] += p;
            triples.gather(trial);
            if (!triples.leastFactor(answer)) {
                return i;
            }
            if (answer.isAbove(worst)) {
                worst.become(answer.above, answer.below);
                where = i;
            }
        }
        return where;
    }

    public int falls() {
        int lastStep = arch.last / 2;
        for (int step = 0; step <= lastStep; step++) {
            for (int i = 0; i <= arch.last; i++) {
                boolean laid = i <= step || i >= arch.last - step;
                trial[i] = laid ? arch.weight[i] : 0;
            }
            if (!holdsUnder(trial)) {
                return step;
            }
        }
        return NONE;
    }

    public int spread(int d) {
        if (d < -WIDEST_SPREAD || d > WIDEST_SPREAD) {
            return BAD;
        }
        int span = arch.span() + d;
        if (span <= arch.place[arch.last - 1] || span > FARTHEST) {
            return NOT;
        }
        arch.place[arch.last] = span;
        return 1;
    }

    private boolean holdsUnder(int[] loads) {
        triples.gather(loads);
        return triples.hold();
    }

    /** BAD, NULL or CAST, if a SHEET can't be taken as a row of a LANE; else 0. */
    private int refusalOfRow(int sheet, int lane) {
        if (!isSheet(sheet) || !isLane(lane)) {
            return BAD;
        }
        if (!sheets[sheet].held) {
            return NULL;
        }
        return sheets[sheet].lane == lane ? 0 : CAST;
    }

    private static boolean isSheet(int sheet) {
        return sheet >= 0 && sheet < SHEETS;
    }

    private static boolean isLane(int lane) {
        return lane >= 0 && lane < LANES;
    }

    private static boolean isChoice(int number) {
        return number == 0 || number == 1;
    }

    private static boolean isHeight(int y) {
        return y >= -HIGHEST && y <= HIGHEST;
    }

    private static boolean areEdges(int l, int u) {
        return isHeight(l) && isHeight(u) && l <= u;
    }

    private static boolean isLoad(int w) {
        return w >= 0 && w <= HEAVIEST;
    }

    /** A SHEET. Items of each LANE come from ints, so ints hold them all; the room is made once and used again. */
    private static final class Sheet {
        boolean held;
        int lane;
        int size;
        final int[] items = new int[MOST_ITEMS];

        void hold(int newLane, int newSize) {
            held = true;
            lane = newLane;
            size = newSize;
            Arrays.fill(items, 0);
        }
    }

    /** A fraction without a common divisor, its lower part above 0. */
    private static final class Fraction {
        private static final int MOST_TURNS = 100;

        long above = 0;
        long below = 1;

        void become(long newAbove, long newBelow) {
            long divisor = commonDivisor(Math.abs(newAbove), newBelow);
            if (divisor > 0) {
                above = newAbove / divisor;
                below = newBelow / divisor;
            }
        }

        boolean isAbove(Fraction other) {
            return above * other.below > other.above * below;
        }

        long part(int which) {
            return which == 0 ? above : below;
        }

        // A long's remainders halve every two turns, so a hundred turns are more than it needs.
        private static long commonDivisor(long a, long b) {
            for (int turn = 0; turn < MOST_TURNS && b != 0; turn++) {
                long rest = a % b;
                a = b;
                b = rest;
            }
            return a;
        }
    }

    /** AN ARCH; moment holds m(i) for the loads that were weighed last. */
    private static final class Arch {
        int last;
        final int[] place = new int[MOST_JOINTS];
        final int[] low = new int[MOST_JOINTS];
        final int[] high = new int[MOST_JOINTS];
        final int[] weight = new int[MOST_JOINTS];
        final int[] moment = new int[MOST_JOINTS];

        void renew(int n) {
            if (n < FEWEST_STONES || n > MOST_STONES) {
                return;
            }
            last = n;
            for (int i = 0; i <= n; i++) {
                place[i] = FARTHEST * i / n;
                low[i] = 0;
                high[i] = 1;
                weight[i] = 0;
            }
        }

        int span() {
            return place[last];
        }

        boolean hasJoint(int i) {
            return i >= 0 && i <= last;
        }

        boolean hasInnerJoint(int i) {
            return i >= 1 && i < last;
        }

        boolean mayTake(int[] items, int from) {
            int before = -1;
            for (int i = 0; i <= last; i++) {
                int first = from + ITEMS_OF_A_JOINT * i;
                int x = items[first];
                if (x <= before || x > FARTHEST || (i == 0 && x != 0)) {
                    return false;
                }
                if (!areEdges(items[first + 1], items[first + 2]) || !isLoad(items[first + 3])) {
                    return false;
                }
                before = x;
            }
            return true;
        }

        void take(int[] items, int from) {
            for (int i = 0; i <= last; i++) {
                int first = from + ITEMS_OF_A_JOINT * i;
                place[i] = items[first];
                low[i] = items[first + 1];
                high[i] = items[first + 2];
                weight[i] = hasInnerJoint(i) ? items[first + 3] : 0;
            }
        }

        void weigh(int[] loads) {
            int span = span();
            int all = 0;
            for (int j = 1; j < last; j++) {
                all += loads[j] * (span - place[j]);
            }
            for (int i = 0; i <= last; i++) {
                int ahead = 0;
                for (int j = 1; j < i; j++) {
                    ahead += loads[j] * (place[i] - place[j]);
                }
                moment[i] = place[i] * all - span * ahead;
            }
        }

        /** How far inner at j lies above the chord of outer from i to r, times x(r) - x(i). */
        long rise(int[] inner, int[] outer, int i, int j, int r) {
            long chord = (place[r] - place[j]) * outer[i] + (place[j] - place[i]) * outer[r];
            return (place[r] - place[i]) * inner[j] - chord;
        }

        long bend(int i, int j, int r) {
            return rise(moment, moment, i, j, r);
        }
    }

    /**
     * What all triples of joints ask of the push by L: twice bend times it lies from middle - t room to
     * middle + t room, if the arch is THINNED by t. Entry 0 is no triple, but the push itself: not below 0.
     * bend is never below 0, as loads bend the LINE one way only.
     */
    private static final class Triples {
        private static final int MOST_TRIPLES = 35;
        private static final int THE_PUSH = 0;

        final Arch arch;
        int count;
        final long[] middle = new long[MOST_TRIPLES + 1];
        final long[] room = new long[MOST_TRIPLES + 1];
        final long[] bend = new long[MOST_TRIPLES + 1];

        Triples(Arch arch) {
            this.arch = arch;
            bend[THE_PUSH] = 1;
        }

        void gather(int[] loads) {
            arch.weigh(loads);
            count = 0;
            for (int i = 0; i <= arch.last - 2; i++) {
                for (int j = i + 1; j < arch.last; j++) {
                    for (int r = j + 1; r <= arch.last && count < MOST_TRIPLES; r++) {
                        count++;
                        long least = arch.rise(arch.low, arch.high, i, j, r);
                        long most = arch.rise(arch.high, arch.low, i, j, r);
                        middle[count] = least + most;
                        room[count] = most - least;
                        bend[count] = arch.bend(i, j, r);
                    }
                }
            }
        }

        boolean hold() {
            for (int e = 1; e <= count; e++) {
                if (bend[e] == 0 && Math.abs(middle[e]) > room[e]) {
                    return false;
                }
            }
            return !bars(tightestLeast(1, 1), tightestMost(1, 1), 1, 1);
        }

        /** The greatest push by L of an arch that STANDS; false, if there is none. */
        boolean greatestPush(Fraction push) {
            int tightest = tightestMost(1, 1);
            if (tightest == THE_PUSH) {
                return false;
            }
            push.become(middle[tightest] + room[tightest], 2 * bend[tightest]);
            return true;
        }

        /** The least push by L of an arch that STANDS; false, if that is 0. */
        boolean leastPush(Fraction push) {
            int tightest = tightestLeast(1, 1);
            if (tightest == THE_PUSH) {
                return false;
            }
            push.become(middle[tightest] - room[tightest], 2 * bend[tightest]);
            return true;
        }

        /**
         * THE FACTOR; false, if there is none. It is raised from the least that straight triples need to what the
         * tightest two need that still bar each other. Two that were cleared once stay clear of each other, so
         * there are no more turns than pairs.
         */
        boolean leastFactor(Fraction t) {
            if (!straightFactor(t)) {
                return false;
            }
            for (int turn = 0; turn <= MOST_TRIPLES * (MOST_TRIPLES + 1); turn++) {
                int low = tightestLeast(t.above, t.below);
                int high = tightestMost(t.above, t.below);
                if (!bars(low, high, t.above, t.below)) {
                    return true;
                }
                long clearing = room[high] * bend[low] + room[low] * bend[high];
                if (clearing == 0) {
                    return false;
                }
                t.become(middle[low] * bend[high] - middle[high] * bend[low], clearing);
            }
            return false;
        }

        /** What triples need that no push bends; false, if one has no room at all. */
        private boolean straightFactor(Fraction t) {
            t.become(0, 1);
            for (int e = 1; e <= count; e++) {
                long off = Math.abs(middle[e]);
                if (bend[e] == 0 && off > 0) {
                    if (room[e] == 0) {
                        return false;
                    }
                    if (off * t.below > room[e] * t.above) {
                        t.become(off, room[e]);
                    }
                }
            }
            return true;
        }

        private long least(int e, long above, long below) {
            return middle[e] * below - room[e] * above;
        }

        private long most(int e, long above, long below) {
            return middle[e] * below + room[e] * above;
        }

        /** The entry that keeps the push highest from below. */
        private int tightestLeast(long above, long below) {
            int best = THE_PUSH;
            for (int e = 1; e <= count; e++) {
                if (bend[e] > 0 && least(e, above, below) * bend[best] > least(best, above, below) * bend[e]) {
                    best = e;
                }
            }
            return best;
        }

        /** The entry that keeps the push lowest from above; THE_PUSH, if none does. */
        private int tightestMost(long above, long below) {
            int best = THE_PUSH;
            for (int e = 1; e <= count; e++) {
                if (bend[e] > 0 && (best == THE_PUSH
                        || most(e, above, below) * bend[best] < most(best, above, below) * bend[e])) {
                    best = e;
                }
            }
            return best;
        }

        private boolean bars(int low, int high, long above, long below) {
            return high != THE_PUSH && least(low, above, below) * bend[high] > most(high, above, below) * bend[low];
        }
    }

    /**
     * THE LINE of the LEAST. Its push by L is pushAbove by pushBelow; all heights are kept times pushBelow, the
     * slope times startBelow as well, so that they stay whole numbers.
     */
    private static final class LeastLine {
        final Arch arch;
        long pushAbove;
        long pushBelow = 1;
        long startAbove;
        long startBelow = 1;
        long slopeAbove;
        long slopeBelow = 1;

        LeastLine(Arch arch) {
            this.arch = arch;
        }

        void lay(Fraction push) {
            pushAbove = push.above;
            pushBelow = push.below;
            findLeastStart();
            findLeastSlope();
        }

        // A line that is high enough at i, low enough at j behind it, comes down to joint 0 no lower than the line
        // through both edges does.
        private void findLeastStart() {
            startAbove = straightLow(0);
            startBelow = 1;
            for (int i = 1; i < arch.last; i++) {
                for (int j = i + 1; j <= arch.last; j++) {
                    long above = arch.place[j] * straightLow(i) - arch.place[i] * straightHigh(j);
                    long below = arch.place[j] - arch.place[i];
                    if (above * startBelow > startAbove * below) {
                        startAbove = above;
                        startBelow = below;
                    }
                }
            }
        }

        private void findLeastSlope() {
            slopeAbove = straightLow(arch.last) * startBelow - startAbove;
            slopeBelow = arch.span();
            for (int i = 1; i < arch.last; i++) {
                long above = straightLow(i) * startBelow - startAbove;
                long below = arch.place[i];
                if (above * slopeBelow > slopeAbove * below) {
                    slopeAbove = above;
                    slopeBelow = below;
                }
            }
        }

        void heightInto(Fraction answer, int i) {
            long straight = startAbove * slopeBelow + slopeAbove * arch.place[i];
            long bent = arch.moment[i] * pushAbove * startBelow * slopeBelow;
            answer.become(straight + bent, pushBelow * startBelow * slopeBelow);
        }

        /** The lower edge for what is left of the LINE without its bend. */
        private long straightLow(int i) {
            return arch.low[i] * pushBelow - arch.moment[i] * pushAbove;
        }

        private long straightHigh(int i) {
            return arch.high[i] * pushBelow - arch.moment[i] * pushAbove;
        }
    }

    /**
     * BARS of an arch that does not STAND, its loads being weighed. One or two edges bar nothing, as the lines of
     * two joints are never parallel. Where more bar, lower and upper edges take turns from joint to joint, so the
     * first edge and the joints tell them all.
     */
    private static final class Bars {
        final Arch arch;
        int count;
        final int[] chosen = new int[MOST_BARS];

        Bars(Arch arch) {
            this.arch = arch;
        }

        void find() {
            count = 0;
            if (!findFirst(3)) {
                findFirst(4);
            }
        }

        /** Keeps the first set of so many edges that bars; false, if there is none. */
        private boolean findFirst(int size) {
            for (int first = 0; first <= 2 * arch.last + 1; first++) {
                int p = first / 2;
                for (int q = p + 1; q < arch.last; q++) {
                    for (int r = q + 1; r <= arch.last; r++) {
                        if (size == 3 ? barsThree(first % 2, p, q, r) : barsFour(first % 2, p, q, r)) {
                            return true;
                        }
                    }
                }
            }
            return false;
        }

        // Three bar where no push can bend the LINE: it can't rise above a chord, nor sink below it.
        private boolean barsThree(int odd, int p, int q, int r) {
            if (arch.bend(p, q, r) != 0 || !isBeyondChord(odd, p, q, r)) {
                return false;
            }
            keep(odd, p, q, r);
            count = 3;
            return true;
        }

        private boolean barsFour(int odd, int p, int q, int r) {
            for (int s = r + 1; s <= arch.last; s++) {
                if (isCrossed(odd, p, q, r, s)) {
                    keep(odd, p, q, r);
                    chosen[3] = 2 * s + 1 - odd;
                    count = 4;
                    return true;
                }
            }
            // A push not below 0 never lets the LINE sink below a chord of its own.
            if (odd == 0 && isBeyondChord(odd, p, q, r)) {
                keep(odd, p, q, r);
                chosen[3] = EDGE_OF_PUSH;
                count = 4;
                return true;
            }
            return false;
        }

        private void keep(int odd, int p, int q, int r) {
            chosen[0] = 2 * p + odd;
            chosen[1] = 2 * q + 1 - odd;
            chosen[2] = 2 * r + odd;
        }

        /** Whether q's edge lies wholly beyond the chord of the edges at p and r (below lower, above upper ones). */
        private boolean isBeyondChord(int odd, int p, int q, int r) {
            if (odd == 0) {
                return arch.rise(arch.high, arch.low, p, q, r) < 0;
            }
            return arch.rise(arch.low, arch.high, p, q, r) > 0;
        }

        /** Whether the bend that p, q, r ask for is one that q, r, s forbid: heights of a LINE make the sum 0. */
        private boolean isCrossed(int odd, int p, int q, int r, int s) {
            int[] ends = odd == 0 ? arch.low : arch.high;
            int[] turns = odd == 0 ? arch.high : arch.low;
            long sum = arch.bend(q, r, s) * ends[p] - arch.bend(p, r, s) * turns[q]
                    + arch.bend(p, q, s) * ends[r] - arch.bend(p, q, r) * turns[s];
            return odd == 0 ? sum > 0 : sum < 0;
        }
    }
}
