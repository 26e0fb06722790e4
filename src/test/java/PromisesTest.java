/** Each promise of the document with ordinary inputs, with the edges it names, and with wrong ones. */
public final class PromisesTest extends Bench {
    private PromisesTest() {
        super("PromisesTest");
    }

    public static void main(String[] args) {
        PromisesTest test = new PromisesTest();
        test.newObject();
        test.haul();
        test.caught();
        test.out();
        test.arm();
        test.pair();
        test.difference();
        test.keptAndSum();
        test.odds();
        test.rank();
        test.rankOdds();
        test.sixteenPairs();
        test.stopped();
        test.crossing();
        test.crossingByAllWays();
        test.least();
        test.meanWeightJoined();
        test.reader();
        test.unlike();
        test.priceAndLost();
        test.mostOfAll();
        test.checks.end();
    }

    private void newObject() {
        t = new DeviceTrials(0);
        due("pairs", 0, () -> t.pairs());
        due("no haul", INDEX, () -> t.arm(0));
        due("no pair", INDEX, () -> t.pair(0, 0));
        for (int k = 0; k < 3; k++) {
            int kind = k;
            due("kept", 0, () -> t.kept(kind));
            due("sum", 0, () -> t.sum(kind));
            due("stopped", NONE, () -> t.stopped(kind, 1, 1));
            dueOdds(kind, 1, 1);
            dueRankOdds(kind, 1, 1);
        }
        for (int ship = 0; ship < 4; ship++) {
            dueMean(ship, 0, 1);
            dueWeight(ship, 0, 1);
        }
        dueJoined(0, 1);
        due("unlike", NONE, () -> t.unlike(0));
        due("lost", 0, () -> t.lost());
    }

    private void haul() {
        t = new DeviceTrials(3);
        for (int wrong : new int[] {4, -1, Integer.MIN_VALUE, Integer.MAX_VALUE}) {
            due("haul of no ship", INDEX, () -> t.haul(wrong));
        }
        for (int i = 0; i < 32; i++) {
            int ship = i % 4;
            due("haul", i, () -> t.haul(ship));
        }
        due("the 33rd haul", STATE, () -> t.haul(0));
        due("the 33rd haul of no ship", INDEX, () -> t.haul(4));
        due("pairs", 16, () -> t.pairs());
        due("no haul 32", INDEX, () -> t.arm(32));
    }

    private void caught() {
        t = new DeviceTrials(3);
        due("no haul", INDEX, () -> t.caught(0, 0, 1));
        t.haul(2);
        due("0 is not another one", false, () -> t.caught(0, 0, 0));
        due("1000", true, () -> t.caught(0, 2, 1000));
        due("1000 again", false, () -> t.caught(0, 2, 1000));
        due("another kind", true, () -> t.caught(0, 1, 1000));
        due("back to 0", true, () -> t.caught(0, 2, 0));
        due("1001", ARGUMENT, () -> t.caught(0, 1, 1001));
        due("no kind", INDEX, () -> t.caught(0, 3, 1));
        due("the first named exception, kind", INDEX, () -> t.caught(0, 3, 1001));
        due("the first named exception, haul", INDEX, () -> t.caught(1, 0, -1));
        for (int far : FAR) {
            due("far haul", INDEX, () -> t.caught(far, 0, 1));
            due("far kind", INDEX, () -> t.caught(0, far, 1));
            due("far count", ARGUMENT, () -> t.caught(0, 1, far));
        }
        due("nothing changed", false, () -> t.caught(0, 1, 1000));
    }

    private void out() {
        withDifferences(4);
        due("not new", false, () -> t.out(0, false));
        due("new", true, () -> t.out(0, true));
        due("not new again", false, () -> t.out(0, true));
        due("dropped", 0, () -> t.kept(0));
        due("a difference stays", 4, () -> t.difference(0, 0));
        due("another ship", true, () -> t.out(3, true));
        due("no ship 4", INDEX, () -> t.out(4, true));
        for (int far : FAR) {
            due("no ship", INDEX, () -> t.out(far, false));
        }
        due("in again", true, () -> t.out(0, false));
        due("kept again", 1, () -> t.kept(0));
    }

    /** Bit 40 of 1 step behind 0 is bit 40 of 1442695040888963407. */
    private void arm() {
        t = new DeviceTrials(0);
        long first = 1442695040888963407L;
        long second = first * 6364136223846793005L + 1442695040888963407L;
        int one = (int) (first >> 40 & 1);
        int two = (int) (second >> 40 & 1);
        t.haul(1);
        due("by the seed", one, () -> t.arm(0));
        t.haul(3);
        due("the next pair, of another ship", two, () -> t.arm(1));
        t.haul(3);
        due("turned, ship 3", 1 - two, () -> t.arm(2));
        t.haul(1);
        due("turned, ship 1", 1 - one, () -> t.arm(3));
        due("no haul 4", INDEX, () -> t.arm(4));
        for (int far : FAR) {
            due("no haul", INDEX, () -> t.arm(far));
        }
        due("a wrong ship", INDEX, () -> t.haul(9));
        long third = second * 6364136223846793005L + 1442695040888963407L;
        t.haul(0);
        due("a call that throws draws nothing", (int) (third >> 40 & 1), () -> t.arm(4));
        t = new DeviceTrials(-1);
        t.haul(0);
        long below = -6364136223846793005L + 1442695040888963407L;
        due("a seed below 0", (int) (below >> 40 & 1), () -> t.arm(0));
    }

    private void pair() {
        t = new DeviceTrials(5);
        t.haul(0);
        t.haul(1);
        t.haul(1);
        due("one pair", 1, () -> t.pairs());
        t.haul(0);
        due("two pairs", 2, () -> t.pairs());
        int device = t.arm(1) == 1 ? 1 : 2;
        due("numbered as the second is told: device", device, () -> t.pair(0, 0));
        due("plain", 3 - device, () -> t.pair(0, 1));
        due("ship", 1, () -> t.pair(0, 2));
        due("device of the later one", t.arm(0) == 1 ? 0 : 3, () -> t.pair(1, 0));
        due("plain of the later one", t.arm(0) == 1 ? 3 : 0, () -> t.pair(1, 1));
        due("ship of the later one", 0, () -> t.pair(1, 2));
        due("no pair 2", INDEX, () -> t.pair(2, 0));
        due("no what 3", INDEX, () -> t.pair(0, 3));
        for (int far : FAR) {
            due("no pair", INDEX, () -> t.pair(far, 0));
            due("no what", INDEX, () -> t.pair(0, far));
        }
    }

    private void difference() {
        withDifferences(4, -9, 0);
        due("above", 4, () -> t.difference(0, 0));
        due("below", -9, () -> t.difference(1, 0));
        due("none", 0, () -> t.difference(2, 0));
        due("of another kind", 0, () -> t.difference(0, 2));
        due("no pair 3", INDEX, () -> t.difference(3, 0));
        due("no kind 3", INDEX, () -> t.difference(0, 3));
        for (int far : FAR) {
            due("no pair", INDEX, () -> t.difference(far, 0));
            due("no kind", INDEX, () -> t.difference(0, far));
        }
    }

    private void keptAndSum() {
        withDifferences(4, -9, 0);
        addPair(1, 0, 0);
        addPair(2, 0, 6);
        due("a pair of 0 and 0 is dropped, one of 1 and 1 is not", 4, () -> t.kept(0));
        due("sum", -11, () -> t.sum(0));
        due("another kind", 0, () -> t.kept(1));
        t.out(0, true);
        due("kept without ship 0", 1, () -> t.kept(0));
        due("sum without ship 0", -6, () -> t.sum(0));
        t.haul(3);
        due("a haul alone is no pair", 1, () -> t.kept(0));
        due("no kind 3", INDEX, () -> t.kept(3));
        due("no kind 3", INDEX, () -> t.sum(3));
        for (int far : FAR) {
            due("no kind", INDEX, () -> t.kept(far));
            due("no kind", INDEX, () -> t.sum(far));
        }
    }

    private void odds() {
        withDifferences(-5);
        dueOdds(0, 1, 2);
        withDifferences(5);
        dueOdds(0, 1, 1);
        withDifferences(1, -1);
        dueOdds(0, 3, 4);
        withDifferences(0, 0, 0);
        dueOdds(0, 1, 1);
        withDifferences(-5, -3, -3);
        dueOdds(0, 1, 8);
        withDifferences(-5, 3, -2);
        // Of -10, -6, -4, 0, 0, 4, 6, 10 three are not above -4.
        dueOdds(0, 3, 8);
        t.out(0, true);
        dueOdds(0, 1, 1);
        due("no part 2", INDEX, () -> t.odds(0, 2));
        due("no kind 3", INDEX, () -> t.odds(3, 0));
        for (int far : FAR) {
            due("no part", INDEX, () -> t.odds(0, far));
            due("no kind", INDEX, () -> t.odds(far, 1));
        }
    }

    private void rank() {
        withDifferences(-5, 3, -3, 0, 8);
        int[] ranks = {6, 3, 3, 0, 8};
        for (int i = 0; i < ranks.length; i++) {
            int pair = i;
            due("rank " + pair, ranks[pair], () -> t.rank(pair, 0));
            due("rank of another kind " + pair, 0, () -> t.rank(pair, 1));
        }
        addPair(1, 9, 5);
        due("between 3 and 5", 6, () -> t.rank(5, 0));
        due("5 then", 8, () -> t.rank(0, 0));
        t.out(1, true);
        due("a pair left out", 0, () -> t.rank(5, 0));
        due("5 again", 6, () -> t.rank(0, 0));
        due("no pair 6", INDEX, () -> t.rank(6, 0));
        due("no kind 3", INDEX, () -> t.rank(0, 3));
        for (int far : FAR) {
            due("no pair", INDEX, () -> t.rank(far, 0));
            due("no kind", INDEX, () -> t.rank(0, far));
        }
    }

    private void rankOdds() {
        withDifferences(-5);
        dueRankOdds(0, 1, 2);
        withDifferences(0, 0);
        dueRankOdds(0, 1, 1);
        withDifferences(-900, 2, -1);
        // RANKS 6, 4, 2 and RANKED 4: of 0, 2, 4, 6, 6, 8, 10, 12 three are not above it.
        dueRankOdds(0, 3, 8);
        dueOdds(0, 3, 8);
        withDifferences(-9, 1, 1, 2);
        // RANKS 8, 3, 3, 6 and RANKED 12: 20, 17, 17, 14, 14, 14 are above it.
        dueRankOdds(0, 11, 16);
        // Of the sizes 9, 1, 1, 2 with a sum not above 4: all without the 9.
        dueOdds(0, 1, 2);
        due("no part 2", INDEX, () -> t.rankOdds(0, 2));
        due("no kind 3", INDEX, () -> t.rankOdds(3, 0));
        for (int far : FAR) {
            due("no part", INDEX, () -> t.rankOdds(0, far));
            due("no kind", INDEX, () -> t.rankOdds(far, 1));
        }
    }

    private void sixteenPairs() {
        int[] differences = new int[16];
        java.util.Arrays.fill(differences, -999);
        withDifferences(differences);
        dueOdds(0, 1, 65536);
        dueRankOdds(0, 1, 65536);
        due("the rank of 16 alike", 17, () -> t.rank(15, 0));
        due("all better", 2 * 15, () -> t.stopped(0, 16, 16));
        differences[4] = 999;
        withDifferences(differences);
        dueOdds(0, 17, 65536);
        dueRankOdds(0, 17, 65536);
        for (int i = 0; i < 16; i++) {
            differences[i] = i % 2 == 0 ? 1 << i / 2 : -(1 << i / 2);
        }
        withDifferences(differences);
        long count = 0;
        for (int p = 0; p < 256; p++) {
            count += 256 - p;
        }
        // Both halves go over 0 .. 255 each, and both together are not above 255 so often.
        dueOdds(0, count / 128, 65536 / 128);
    }

    private void stopped() {
        withDifferences(-1, -1, 1, 0, -1, -1, 1, 1, 1, 1, 1);
        due("1", 0, () -> t.stopped(0, 1, 1));
        due("2", 2, () -> t.stopped(0, 2, 1));
        due("3", 2 * 5, () -> t.stopped(0, 3, 1));
        due("worse", 2 * 10 + 1, () -> t.stopped(0, 16, 2));
        due("none", NONE, () -> t.stopped(0, 4, 3));
        withDifferences(1, 0, -1, 1, 1);
        due("worse at once", 1, () -> t.stopped(0, 1, 1));
        due("worse at 4", 9, () -> t.stopped(0, 1, 2));
        due("worse never", NONE, () -> t.stopped(0, 1, 3));
        addPair(1, 5, 1);
        due("worse at 5", 11, () -> t.stopped(0, 1, 3));
        t.out(1, true);
        due("left out", NONE, () -> t.stopped(0, 1, 3));
        due("16", NONE, () -> t.stopped(0, 16, 16));
        due("17", ARGUMENT, () -> t.stopped(0, 17, 1));
        due("17", ARGUMENT, () -> t.stopped(0, 1, 17));
        due("0", ARGUMENT, () -> t.stopped(0, 0, 1));
        due("0", ARGUMENT, () -> t.stopped(0, 1, 0));
        due("the first named", INDEX, () -> t.stopped(3, 0, 0));
        for (int far : FAR) {
            due("no kind", INDEX, () -> t.stopped(far, 1, 1));
            due("far upper", ARGUMENT, () -> t.stopped(0, far, 1));
            due("far lower", ARGUMENT, () -> t.stopped(0, 1, far));
        }
    }

    private void crossing() {
        t = new DeviceTrials(1);
        dueCrossing(0, 1, 1, 0, 1);
        dueCrossing(1, 1, 1, 1, 2);
        dueCrossing(40, 1, 1, 1, 2);
        dueCrossing(2, 2, 1, 1, 4);
        dueCrossing(4, 2, 1, 5, 16);
        dueCrossing(3, 1, 2, 5, 8);
        dueCrossing(15, 16, 16, 0, 1);
        dueCrossing(16, 16, 16, 1, 65536);
        // One way up in 16 steps becomes 4, and 16 ways have a step down on the way: 20 / 2 to 18.
        dueCrossing(18, 16, 16, 5, 1 << 16);
        due("n = 41", ARGUMENT, () -> t.crossing(41, 1, 1, 0));
        due("n = -1", ARGUMENT, () -> t.crossing(-1, 1, 1, 0));
        due("upper 17", ARGUMENT, () -> t.crossing(1, 17, 1, 0));
        due("upper 0", ARGUMENT, () -> t.crossing(1, 0, 1, 0));
        due("lower 17", ARGUMENT, () -> t.crossing(1, 1, 17, 0));
        due("lower 0", ARGUMENT, () -> t.crossing(1, 1, 0, 0));
        due("no part 2", INDEX, () -> t.crossing(1, 1, 1, 2));
        due("the first named", INDEX, () -> t.crossing(41, 0, 0, -1));
        for (int far : FAR) {
            due("far n", ARGUMENT, () -> t.crossing(far, 1, 1, 0));
            due("far upper", ARGUMENT, () -> t.crossing(1, far, 1, 0));
            due("far lower", ARGUMENT, () -> t.crossing(1, 1, far, 0));
            due("far part", INDEX, () -> t.crossing(1, 1, 1, far));
        }
    }

    private void crossingByAllWays() {
        for (int n = 0; n <= 12; n++) {
            t = new DeviceTrials(1);
            for (int upper = 1; upper <= 5; upper++) {
                for (int lower = 1; lower <= 5; lower++) {
                    long count = 0;
                    for (int way = 0; way < 1 << n; way++) {
                        count += comesToUpper(way, n, upper, lower) ? 1 : 0;
                    }
                    long divisor = count == 0 ? 1 << n : Math.min(Long.lowestOneBit(count), 1 << n);
                    dueCrossing(n, upper, lower, count / divisor, (1 << n) / divisor);
                }
            }
        }
    }

    private static boolean comesToUpper(int way, int n, int upper, int lower) {
        int at = 0;
        for (int step = 0; step < n; step++) {
            at += (way >> step & 1) == 1 ? 1 : -1;
            if (at == upper || at == -lower) {
                return at == upper;
            }
        }
        return false;
    }

    private void least() {
        t = new DeviceTrials(1);
        due("nothing asked", 0, () -> t.least(16, 16, 0, 1000));
        due("a half at once", 1, () -> t.least(1, 1, 1, 2));
        due("just a half", 1, () -> t.least(1, 1, 500, 1000));
        due("more than a half", NONE, () -> t.least(1, 1, 501, 1000));
        due("5 / 16", 4, () -> t.least(2, 1, 312, 1000));
        due("a bit more than 5 / 16", 6, () -> t.least(2, 1, 313, 1000));
        due("a third never", NONE, () -> t.least(2, 1, 1, 3));
        due("all", NONE, () -> t.least(1, 16, 1, 1));
        due("not in 40", NONE, () -> t.least(16, 16, 1, 2));
        due("just with the 40th", 40, () -> t.least(2, 5, 12, 17));
        for (int n = 0; n <= 40; n++) {
            long above = t.crossing(n, 1, 16, 0);
            long below = t.crossing(n, 1, 16, 1);
            if (below <= 1000) {
                int steps = n % 2 == 0 && n > 0 ? n - 1 : n;
                due("as crossing " + n, steps, () -> t.least(1, 16, (int) above, (int) below));
            }
        }
        due("below 0", ARGUMENT, () -> t.least(1, 1, 0, 0));
        due("below 1001", ARGUMENT, () -> t.least(1, 1, 1, 1001));
        due("above more than below", ARGUMENT, () -> t.least(1, 1, 3, 2));
        due("above -1", ARGUMENT, () -> t.least(1, 1, -1, 2));
        due("upper 17", ARGUMENT, () -> t.least(17, 1, 1, 2));
        due("lower 17", ARGUMENT, () -> t.least(1, 17, 1, 2));
        due("upper 0", ARGUMENT, () -> t.least(0, 1, 0, 2));
        due("lower 0", ARGUMENT, () -> t.least(1, 0, 0, 2));
        for (int far : FAR) {
            due("far upper", ARGUMENT, () -> t.least(far, 1, 0, 1));
            due("far lower", ARGUMENT, () -> t.least(1, far, 0, 1));
            due("far above", ARGUMENT, () -> t.least(1, 1, far, 1));
            due("far below", ARGUMENT, () -> t.least(1, 1, 0, far));
        }
    }

    private void meanWeightJoined() {
        withDifferences(4, -9, 1);
        addPair(2, 3, 0);
        addPair(2, 0, 0);
        addPair(2, 4, 5);
        addPair(3, 9, 9);
        dueMean(0, -4, 3);
        dueMean(1, 0, 1);
        dueMean(2, 1, 1);
        dueMean(3, 0, 1);
        dueWeight(0, 1, 2);
        dueWeight(1, 0, 1);
        dueWeight(2, 1, 3);
        dueWeight(3, 1, 6);
        dueJoined(-1, 3);
        t.out(0, true);
        dueMean(0, 0, 1);
        dueWeight(0, 0, 1);
        dueWeight(2, 2, 3);
        dueJoined(2, 3);
        for (int wrong : new int[] {4, -1, Integer.MIN_VALUE, Integer.MAX_VALUE}) {
            due("no ship", INDEX, () -> t.mean(wrong, 0, 0));
            due("no ship", INDEX, () -> t.weight(wrong, 0, 0));
        }
        for (int wrong : new int[] {3, -1, Integer.MIN_VALUE, Integer.MAX_VALUE}) {
            due("no kind", INDEX, () -> t.mean(0, wrong, 0));
            due("no kind", INDEX, () -> t.weight(0, wrong, 0));
            due("no kind", INDEX, () -> t.joined(wrong, 0));
        }
        for (int wrong : new int[] {2, -1, Integer.MIN_VALUE, Integer.MAX_VALUE}) {
            due("no part", INDEX, () -> t.mean(0, 0, wrong));
            due("no part", INDEX, () -> t.weight(0, 0, wrong));
            due("no part", INDEX, () -> t.joined(0, wrong));
        }
    }

    private void reader() {
        t = new DeviceTrials(1);
        due("no haul", INDEX, () -> t.reader(0, 0, 1));
        t.haul(0);
        due("one alone", false, () -> t.reader(0, 1, 100000));
        due("both", true, () -> t.reader(0, 0, 0));
        due("0 and 0", false, () -> t.reader(0, 1, 0));
        due("0 and 1", true, () -> t.reader(0, 1, 1));
        due("9 and 1", true, () -> t.reader(0, 0, 9));
        due("9 and 11: 20 is not above 20", false, () -> t.reader(0, 1, 11));
        due("11 and 9 the other way", false, () -> t.reader(0, 0, 11) || t.reader(0, 1, 9));
        due("11 and 8", true, () -> t.reader(0, 1, 8));
        due("both far up", false, () -> t.reader(0, 0, 100000) && t.reader(0, 1, 100000));
        due("100001", ARGUMENT, () -> t.reader(0, 0, 100001));
        due("no reader 2", INDEX, () -> t.reader(0, 2, 1));
        due("the first named", INDEX, () -> t.reader(0, 2, -1));
        due("no haul 1", INDEX, () -> t.reader(1, 0, 100001));
        for (int far : FAR) {
            due("no haul", INDEX, () -> t.reader(far, 0, 1));
            due("no reader", INDEX, () -> t.reader(0, far, 1));
            due("far count", ARGUMENT, () -> t.reader(0, 0, far));
        }
        due("nothing changed", NONE, () -> t.unlike(0));
    }

    private void unlike() {
        t = new DeviceTrials(1);
        for (int i = 0; i < 32; i++) {
            t.haul(i / 8);
        }
        t.reader(3, 0, 1);
        t.reader(3, 1, 2);
        t.reader(31, 0, 50);
        t.reader(31, 1, 62);
        t.reader(9, 1, 7);
        due("from 0", 3, () -> t.unlike(0));
        due("from itself", 3, () -> t.unlike(3));
        due("from behind it", 31, () -> t.unlike(4));
        due("the last", 31, () -> t.unlike(31));
        due("from 32", NONE, () -> t.unlike(32));
        due("from 33", INDEX, () -> t.unlike(33));
        for (int far : FAR) {
            due("from far", INDEX, () -> t.unlike(far));
        }
        t.reader(31, 1, 61);
        due("like again", NONE, () -> t.unlike(4));
    }

    private void priceAndLost() {
        withDifferences(-5, 2);
        t.caught(t.pair(0, 0), 2, 10);
        due("without prices", 0, () -> t.lost());
        t.price(0, 100);
        due("lost", 300, () -> t.lost());
        t.price(2, 7);
        due("less than nothing", 230, () -> t.lost());
        t.price(0, 0);
        due("a price in place of the one before", -70, () -> t.lost());
        t.price(1, 100000);
        due("a kind without a sum", -70, () -> t.lost());
        due("100001", ARGUMENT, () -> { t.price(2, 100001); return 0; });
        due("no kind 3", INDEX, () -> { t.price(3, 1); return 0; });
        due("the first named", INDEX, () -> { t.price(3, -1); return 0; });
        for (int far : FAR) {
            due("no kind", INDEX, () -> { t.price(far, 1); return 0; });
            due("far price", ARGUMENT, () -> { t.price(2, far); return 0; });
        }
        due("nothing changed", -70, () -> t.lost());
        t.out(0, true);
        due("left out", 0, () -> t.lost());
    }

    /** The dearest counts and prices: more than an int holds. */
    private void mostOfAll() {
        t = new DeviceTrials(99);
        for (int i = 0; i < 16; i++) {
            addPair(i % 4, 1000, 0);
        }
        for (int kind = 0; kind < 3; kind++) {
            t.price(kind, 100000);
            for (int pair = 0; pair < 16; pair++) {
                t.caught(t.pair(pair, 0), kind, 1000);
            }
        }
        due("sum", 16000, () -> t.sum(0));
        due("lost", -4800000000L, () -> t.lost());
        dueOdds(0, 1, 1);
        dueMean(3, 1000, 1);
        dueWeight(3, 1, 4);
    }
}
