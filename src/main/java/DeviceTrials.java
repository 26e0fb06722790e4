/**
 * Devices tried at sea: hauls in turned pairs, counts of kinds caught, and the exact odds of what
 * was seen. The document's words in capitals are used here with the document's meaning.
 */
public final class DeviceTrials {
    public static final int NONE = -1;

    private static final int SHIPS = 4;
    private static final int HAULS = 32;
    private static final int PAIRS = HAULS / 2;
    private static final int KINDS = 3;
    private static final int READERS = 2;
    private static final int PARTS = 2;
    private static final int PAIR_FACTS = 3;

    private static final int MOST_CAUGHT = 1000;
    private static final int MOST_READ = 100000;
    private static final int MOST_CENTS = 100000;
    private static final int MOST_BOUND = 16;
    private static final int MOST_STEPS = 40;
    private static final int MOST_BELOW = 1000;

    /** Stands where a ship could stand and means every ship. */
    private static final int ALL_SHIPS = SHIPS;

    /** Euclid's way ends within 93 divisions for any two longs. */
    private static final int MOST_DIVISIONS = 100;

    private final Journal journal;
    private final Camera camera;
    private final Choices choices;
    private final Walk walk;
    private final int[] centsOfKind;

    public DeviceTrials(int seed) {
        journal = new Journal(seed);
        camera = new Camera();
        choices = new Choices();
        walk = new Walk();
        centsOfKind = new int[KINDS];
    }

    public int haul(int ship) throws IndexOutOfBoundsException, IllegalStateException {
        needShip(ship);
        if (journal.haulCount >= HAULS) {
            throw new IllegalStateException("there are 32 hauls");
        }
        return journal.addHaul(ship);
    }

    public boolean caught(int haul, int kind, int n)
            throws IndexOutOfBoundsException, IllegalArgumentException {
        needHaul(haul);
        needKind(kind);
        needNumber(n, 0, MOST_CAUGHT);
        return journal.putCount(haul, kind, n);
    }

    public boolean out(int ship, boolean on) throws IndexOutOfBoundsException {
        needShip(ship);
        return journal.leaveOut(ship, on);
    }

    public int arm(int haul) throws IndexOutOfBoundsException {
        needHaul(haul);
        return journal.hasDevice[haul] ? 1 : 0;
    }

    public int pair(int pair, int what) throws IndexOutOfBoundsException {
        needPair(pair);
        needIndex(what, PAIR_FACTS);
        if (what == 0) {
            return journal.deviceHaul[pair];
        }
        return what == 1 ? journal.plainHaul[pair] : journal.shipOfPair[pair];
    }

    public int pairs() {
        return journal.pairCount;
    }

    public int difference(int pair, int kind) throws IndexOutOfBoundsException {
        needPair(pair);
        needKind(kind);
        return journal.differenceOf(pair, kind);
    }

    public int kept(int kind) throws IndexOutOfBoundsException {
        needKind(kind);
        return journal.keptOf(ALL_SHIPS, kind);
    }

    public int sum(int kind) throws IndexOutOfBoundsException {
        needKind(kind);
        return journal.sumOf(ALL_SHIPS, kind);
    }

    public long odds(int kind, int part) throws IndexOutOfBoundsException {
        needKind(kind);
        needPart(part);
        choices.clear();
        for (int pair = 0; pair < journal.pairCount; pair++) {
            if (journal.keeps(pair, kind)) {
                int difference = journal.differenceOf(pair, kind);
                choices.add(Math.abs(difference), difference > 0);
            }
        }
        return toldPart(choices.countNotAbove(), choices.countAll(), part);
    }

    public int rank(int pair, int kind) throws IndexOutOfBoundsException {
        needPair(pair);
        needKind(kind);
        return journal.rankOf(pair, kind);
    }

    public long rankOdds(int kind, int part) throws IndexOutOfBoundsException {
        needKind(kind);
        needPart(part);
        choices.clear();
        for (int pair = 0; pair < journal.pairCount; pair++) {
            int rank = journal.rankOf(pair, kind);
            if (rank > 0) {
                choices.add(rank, journal.differenceOf(pair, kind) > 0);
            }
        }
        return toldPart(choices.countNotAbove(), choices.countAll(), part);
    }

    public int stopped(int kind, int upper, int lower)
            throws IndexOutOfBoundsException, IllegalArgumentException {
        needKind(kind);
        needBounds(upper, lower);
        int height = 0;
        for (int pair = 0; pair < journal.pairCount; pair++) {
            height -= Integer.signum(journal.keptDifference(pair, kind));
            if (height == upper) {
                return 2 * pair;
            }
            if (height == -lower) {
                return 2 * pair + 1;
            }
        }
        return NONE;
    }

    public long crossing(int n, int upper, int lower, int part)
            throws IndexOutOfBoundsException, IllegalArgumentException {
        needPart(part);
        needNumber(n, 0, MOST_STEPS);
        needBounds(upper, lower);
        walk.start(upper, lower);
        for (int step = 0; step < n; step++) {
            walk.goOn();
        }
        return toldPart(walk.crossed, walk.all, part);
    }

    public int least(int upper, int lower, int above, int below) throws IllegalArgumentException {
        needNumber(below, 1, MOST_BELOW);
        needNumber(above, 0, below);
        needBounds(upper, lower);
        walk.start(upper, lower);
        for (int n = 0; n <= MOST_STEPS; n++) {
            if (walk.crossed * below >= walk.all * above) {
                return n;
            }
            walk.goOn();
        }
        return NONE;
    }

    public long mean(int ship, int kind, int part) throws IndexOutOfBoundsException {
        needShip(ship);
        needKind(kind);
        needPart(part);
        return toldPart(journal.sumOf(ship, kind), journal.keptOf(ship, kind), part);
    }

    public long weight(int ship, int kind, int part) throws IndexOutOfBoundsException {
        needShip(ship);
        needKind(kind);
        needPart(part);
        return toldPart(journal.keptOf(ship, kind), journal.keptOf(ALL_SHIPS, kind), part);
    }

    public long joined(int kind, int part) throws IndexOutOfBoundsException {
        needKind(kind);
        needPart(part);
        // A ship's WEIGHT times its MEAN is its sum by all PAIRS KEPT, so the ships' sums just add.
        return toldPart(journal.sumOf(ALL_SHIPS, kind), journal.keptOf(ALL_SHIPS, kind), part);
    }

    public boolean reader(int haul, int reader, int n)
            throws IndexOutOfBoundsException, IllegalArgumentException {
        needHaul(haul);
        needIndex(reader, READERS);
        needNumber(n, 0, MOST_READ);
        camera.putReading(haul, reader, n);
        return camera.differs(haul);
    }

    public int unlike(int from) throws IndexOutOfBoundsException {
        needIndex(from, journal.haulCount + 1);
        for (int haul = from; haul < journal.haulCount; haul++) {
            if (camera.differs(haul)) {
                return haul;
            }
        }
        return NONE;
    }

    public void price(int kind, int cents) throws IndexOutOfBoundsException, IllegalArgumentException {
        needKind(kind);
        needNumber(cents, 0, MOST_CENTS);
        centsOfKind[kind] = cents;
    }

    public long lost() {
        long lost = 0;
        for (int kind = 0; kind < KINDS; kind++) {
            lost -= (long) centsOfKind[kind] * journal.sumOf(ALL_SHIPS, kind);
        }
        return lost;
    }

    private static void needIndex(int index, int count) {
        if (index < 0 || index >= count) {
            throw new IndexOutOfBoundsException("there is no such one");
        }
    }

    private static void needShip(int ship) {
        needIndex(ship, SHIPS);
    }

    private static void needKind(int kind) {
        needIndex(kind, KINDS);
    }

    private static void needPart(int part) {
        needIndex(part, PARTS);
    }

    private void needHaul(int haul) {
        needIndex(haul, journal.haulCount);
    }

    private void needPair(int pair) {
        needIndex(pair, journal.pairCount);
    }

    private static void needNumber(int number, int least, int most) {
        if (number < least || number > most) {
            throw new IllegalArgumentException("a number is not as said");
        }
    }

    private static void needBounds(int upper, int lower) {
        needNumber(upper, 1, MOST_BOUND);
        needNumber(lower, 1, MOST_BOUND);
    }

    /** A fraction with nothing below it is one with nothing KEPT, which is told as 0 / 1. */
    private static long toldPart(long above, long below, int part) {
        if (below < 1) {
            return part == 0 ? 0 : 1;
        }
        long divisor = commonDivisor(Math.abs(above), below);
        if (divisor < 1) {
            return part == 0 ? above : below;
        }
        return part == 0 ? above / divisor : below / divisor;
    }

    private static long commonDivisor(long one, long other) {
        long large = other;
        long small = one;
        for (int i = 0; i < MOST_DIVISIONS && small != 0; i++) {
            long rest = large % small;
            large = small;
            small = rest;
        }
        return large;
    }

    /**
     * The hauls with their arms and counts, and the PAIRS that they make. A haul, a pair, a ship
     * and a kind that come here have been looked at by the face.
     */
    private static final class Journal {
        private static final long FACTOR = 6364136223846793005L;
        private static final long ADDEND = 1442695040888963407L;
        private static final int DEVICE_BIT = 40;

        private long state;
        private int haulCount;
        private int pairCount;
        /** Of each ship its haul that has no second one yet, or NONE. */
        private final int[] openHaul;
        private final boolean[] isOut;
        private final boolean[] hasDevice;
        private final int[] counts;
        private final int[] deviceHaul;
        private final int[] plainHaul;
        private final int[] shipOfPair;

        Journal(int seed) {
            state = seed;
            haulCount = 0;
            pairCount = 0;
            openHaul = new int[SHIPS];
            isOut = new boolean[SHIPS];
            hasDevice = new boolean[HAULS];
            counts = new int[HAULS * KINDS];
            deviceHaul = new int[PAIRS];
            plainHaul = new int[PAIRS];
            shipOfPair = new int[PAIRS];
            for (int ship = 0; ship < SHIPS; ship++) {
                openHaul[ship] = NONE;
            }
        }

        int addHaul(int ship) {
            int haul = haulCount;
            int first = openHaul[ship];
            haulCount++;
            if (first == NONE) {
                hasDevice[haul] = drawArm();
                openHaul[ship] = haul;
            } else {
                hasDevice[haul] = !hasDevice[first];
                openHaul[ship] = NONE;
                addPair(first, haul, ship);
            }
            return haul;
        }

        private boolean drawArm() {
            state = state * FACTOR + ADDEND;
            return (state >>> DEVICE_BIT & 1) == 1;
        }

        /** There is always room, as no haul is in two pairs; the index is looked at all the same. */
        private void addPair(int first, int second, int ship) {
            if (pairCount >= PAIRS) {
                return;
            }
            boolean firstHasIt = hasDevice[first];
            deviceHaul[pairCount] = firstHasIt ? first : second;
            plainHaul[pairCount] = firstHasIt ? second : first;
            shipOfPair[pairCount] = ship;
            pairCount++;
        }

        boolean putCount(int haul, int kind, int n) {
            int place = haul * KINDS + kind;
            boolean isOther = counts[place] != n;
            counts[place] = n;
            return isOther;
        }

        boolean leaveOut(int ship, boolean on) {
            boolean isNew = isOut[ship] != on;
            isOut[ship] = on;
            return isNew;
        }

        private int deviceCount(int pair, int kind) {
            return counts[deviceHaul[pair] * KINDS + kind];
        }

        private int plainCount(int pair, int kind) {
            return counts[plainHaul[pair] * KINDS + kind];
        }

        int differenceOf(int pair, int kind) {
            return deviceCount(pair, kind) - plainCount(pair, kind);
        }

        boolean keeps(int pair, int kind) {
            boolean isEmpty = deviceCount(pair, kind) == 0 && plainCount(pair, kind) == 0;
            return !isEmpty && !isOut[shipOfPair[pair]];
        }

        /** A PAIR that is DROPPED adds to no sum, has no rank and moves no walk: as if it were 0. */
        int keptDifference(int pair, int kind) {
            return keeps(pair, kind) ? differenceOf(pair, kind) : 0;
        }

        private boolean isOf(int pair, int ship) {
            return ship == ALL_SHIPS || shipOfPair[pair] == ship;
        }

        int keptOf(int ship, int kind) {
            int kept = 0;
            for (int pair = 0; pair < pairCount; pair++) {
                if (isOf(pair, ship) && keeps(pair, kind)) {
                    kept++;
                }
            }
            return kept;
        }

        int sumOf(int ship, int kind) {
            int sum = 0;
            for (int pair = 0; pair < pairCount; pair++) {
                if (isOf(pair, ship)) {
                    sum += keptDifference(pair, kind);
                }
            }
            return sum;
        }

        int rankOf(int pair, int kind) {
            int size = Math.abs(keptDifference(pair, kind));
            if (size == 0) {
                return 0;
            }
            int rank = 1;
            for (int other = 0; other < pairCount; other++) {
                int otherSize = Math.abs(keptDifference(other, kind));
                if (otherSize == size) {
                    rank++;
                } else if (otherSize > 0 && otherSize < size) {
                    rank += 2;
                }
            }
            return rank;
        }
    }

    /** What the two READERS told of each haul. */
    private static final class Camera {
        private final int[] readings;

        Camera() {
            readings = new int[HAULS * READERS];
            for (int place = 0; place < HAULS * READERS; place++) {
                readings[place] = NONE;
            }
        }

        void putReading(int haul, int reader, int n) {
            readings[haul * READERS + reader] = n;
        }

        boolean differs(int haul) {
            int one = readings[haul * READERS];
            int other = readings[haul * READERS + 1];
            return one != NONE && other != NONE && 10 * Math.abs(one - other) > one + other;
        }
    }

    /**
     * Counts the ways to choose some of up to 16 weights whose sum is not above that of the chosen
     * ones. ODDS are such a count as well: with T the sum of all sizes, signs that give the sizes P
     * a plus make 2 * P - T, and that is not above SUM just if P is not above the sum of the
     * DIFFERENCES above 0.
     */
    private static final class Choices {
        private static final int HALF_SUMS = 1 << PAIRS / 2;

        private final int[] weights;
        private int size;
        private int chosenSum;
        // Sums of either half are kept in order, so that both together are counted in one sweep
        // and not in 2 to 16 steps.
        private final int[] lowSums;
        private final int[] highSums;
        private final int[] spare;

        Choices() {
            weights = new int[PAIRS];
            size = 0;
            chosenSum = 0;
            lowSums = new int[HALF_SUMS];
            highSums = new int[HALF_SUMS];
            spare = new int[HALF_SUMS];
        }

        void clear() {
            size = 0;
            chosenSum = 0;
        }

        void add(int weight, boolean chosen) {
            if (size < PAIRS) {
                weights[size] = weight;
                size++;
                chosenSum += chosen ? weight : 0;
            }
        }

        long countAll() {
            return 1L << size;
        }

        long countNotAbove() {
            int half = size / 2;
            int lowCount = fillSums(lowSums, 0, half);
            int highLeft = fillSums(highSums, half, size);
            long count = 0;
            for (int low = 0; low < lowCount; low++) {
                while (highLeft > 0 && lowSums[low] + highSums[highLeft - 1] > chosenSum) {
                    highLeft--;
                }
                count += highLeft;
            }
            return count;
        }

        private int fillSums(int[] sums, int from, int to) {
            int count = 1;
            sums[0] = 0;
            for (int i = from; i < to; i++) {
                addWeight(sums, count, weights[i]);
                count *= 2;
            }
            return count;
        }

        /** Merges the sums without the weight and those with it, both of which are in order. */
        private void addWeight(int[] sums, int count, int weight) {
            System.arraycopy(sums, 0, spare, 0, count);
            int without = 0;
            int with = 0;
            for (int place = 0; place < 2 * count; place++) {
                boolean takesWithout = with >= count
                        || without < count && spare[without] <= spare[with] + weight;
                if (takesWithout) {
                    sums[place] = spare[without];
                    without++;
                } else {
                    sums[place] = spare[with] + weight;
                    with++;
                }
            }
        }
    }

    /** All ways to go step by step between two bounds, each way counted where it is. */
    private static final class Walk {
        /** At a place: the ways that are so many above the lower bound and have met neither. */
        private final long[] ways;
        private int top;
        private long crossed;
        private long all;

        Walk() {
            ways = new long[2 * MOST_BOUND + 1];
            // A place below the top is looked up, so there is one even before the first start.
            top = 1;
            crossed = 0;
            all = 1;
        }

        void start(int upper, int lower) {
            for (int place = 0; place <= 2 * MOST_BOUND; place++) {
                ways[place] = place == lower ? 1 : 0;
            }
            top = upper + lower;
            crossed = 0;
            all = 1;
        }

        /** A way that came to the upper bound goes on freely, so it becomes two with every step. */
        void goOn() {
            crossed = 2 * crossed + ways[top - 1];
            all *= 2;
            long below = 0;
            for (int place = 1; place < top; place++) {
                long here = ways[place];
                ways[place] = below + ways[place + 1];
                below = here;
            }
        }
    }
}
