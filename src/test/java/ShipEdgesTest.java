/** Promises 17 to 23 and their terms: each sentence that names a boundary, on both of its sides. */
public final class ShipEdgesTest extends Bench {
    private ShipEdgesTest() {
        super("ShipEdgesTest");
    }

    public static void main(String[] args) {
        ShipEdgesTest test = new ShipEdgesTest();
        test.fractionsWithoutAnythingKept();
        test.meanWithoutCommonDivisor();
        test.meanAtItsEnds();
        test.meanOfKeptAlone();
        test.weightAtItsEnds();
        test.weightOfKeptAlone();
        test.joinedOfShips();
        test.joinedAtItsEnds();
        test.shipsKindsAndParts();
        test.readersBothTold();
        test.readersAtTheEdge();
        test.readersOfNeighbours();
        test.readersCounts();
        test.readersThatThereAre();
        test.readersToldAgain();
        test.unlikeOfNoHaul();
        test.unlikeFrom();
        test.unlikeOfEachHaul();
        test.prices();
        test.pricesStartAtZero();
        test.lostHasTheOtherSign();
        test.lostAtItsEnds();
        test.lostOfKeptAlone();
        test.checks.end();
    }

    private void fractionsWithoutAnythingKept() {
        of("without anything KEPT 0 / 1");
        t = new DeviceTrials(3);
        dueMean(0, 0, 1);
        dueWeight(0, 0, 1);
        dueJoined(0, 1);
        addPair(0, 0, 0);
        dueMean(0, 0, 1);
        dueWeight(0, 0, 1);
        dueJoined(0, 1);
        addPair(0, 3, 1);
        dueMean(0, 2, 1);
        dueWeight(0, 1, 1);
        dueJoined(2, 1);
        dueMean(1, 0, 1);
        dueWeight(1, 0, 1);
        t.out(0, true);
        dueMean(0, 0, 1);
        dueWeight(0, 0, 1);
        dueJoined(0, 1);
    }

    private void meanWithoutCommonDivisor() {
        of("Fractions are told .. without a common divisor, below 1 at least");
        withDifferences(5, -1);
        dueMean(0, 2, 1);
        withDifferences(5, -2);
        dueMean(0, 3, 2);
        withDifferences(-5, 2);
        dueMean(0, -3, 2);
        withDifferences(-5, 1);
        dueMean(0, -2, 1);
        withDifferences(5, -5, 3, -3);
        dueMean(0, 0, 1);
        withDifferences(-1, -1, -1, -3);
        dueMean(0, -3, 2);
        withDifferences(3, 3, 3, 3, 3, 3);
        dueMean(0, 3, 1);
    }

    private void meanAtItsEnds() {
        of("MEAN of a ship and kind: the sum of its DIFFERENCES KEPT by how many");
        withDifferences(alike(16, 1000));
        dueMean(0, 1000, 1);
        dueJoined(1000, 1);
        withDifferences(alike(16, -1000));
        dueMean(0, -1000, 1);
        dueJoined(-1000, 1);
        int[] differences = alike(16, 0);
        differences[15] = 1;
        withDifferences(differences);
        dueMean(0, 1, 16);
        dueJoined(1, 16);
        differences[15] = -1;
        withDifferences(differences);
        dueMean(0, -1, 16);
        dueJoined(-1, 16);
    }

    private void meanOfKeptAlone() {
        of("MEAN: .. DIFFERENCES KEPT by how many");
        withDifferences(4);
        addPair(0, 0, 0);
        dueMean(0, 4, 1);
        addPair(0, 1, 1);
        dueMean(0, 2, 1);
        addPair(1, 900, 0);
        dueMean(0, 2, 1);
        dueMean(1, 900, 1);
        t.out(1, true);
        dueMean(0, 2, 1);
        dueMean(1, 0, 1);
    }

    private void weightAtItsEnds() {
        of("WEIGHT: how many of its PAIRS are KEPT by how many of all ships'");
        t = new DeviceTrials(3);
        addDifference(3, 1);
        dueWeight(3, 1, 1);
        dueWeight(0, 0, 1);
        for (int i = 0; i < 15; i++) {
            addDifference(0, 1);
        }
        dueWeight(3, 1, 16);
        dueWeight(0, 15, 16);
        dueWeight(1, 0, 1);
    }

    private void weightOfKeptAlone() {
        of("WEIGHT: .. are KEPT");
        withDifferences(4, 0);
        addDifference(1, 1);
        addPair(1, 0, 0);
        addDifference(2, 1);
        dueWeight(0, 1, 2);
        dueWeight(1, 1, 4);
        t.out(2, true);
        dueWeight(0, 2, 3);
        dueWeight(1, 1, 3);
        dueWeight(2, 0, 1);
        t.out(0, true);
        dueWeight(0, 0, 1);
        dueWeight(1, 1, 1);
    }

    private void joinedOfShips() {
        of("JOINED: the sum over ships of WEIGHT times MEAN");
        withDifferences(5, 6);
        addDifference(1, -20);
        addDifference(2, 0);
        addDifference(3, 3);
        // 2 / 5 * 11 / 2, 1 / 5 * -20, 1 / 5 * 0 and 1 / 5 * 3.
        dueJoined(-6, 5);
        t.out(1, true);
        dueJoined(7, 2);
        t.out(2, true);
        dueJoined(14, 3);
        t.out(0, true);
        dueJoined(3, 1);
        t.out(3, true);
        dueJoined(0, 1);
    }

    private void joinedAtItsEnds() {
        of("JOINED of four ships with four PAIRS each");
        t = new DeviceTrials(3);
        for (int i = 0; i < 16; i++) {
            addDifference(i % 4, i == 15 ? 999 : 1000);
        }
        dueJoined(15999, 16);
        dueMean(3, 3999, 4);
        dueMean(2, 1000, 1);
        dueWeight(3, 1, 4);
    }

    private void shipsKindsAndParts() {
        of("there is no such ship, kind, part");
        withDifferences(-3, -2);
        due("mean, part 0", -5L, () -> t.mean(0, 0, 0));
        due("mean, part 1", 2L, () -> t.mean(0, 0, 1));
        due("mean, ship 3, kind 2", 0L, () -> t.mean(3, 2, 0));
        due("weight, part 0", 1L, () -> t.weight(0, 0, 0));
        due("weight, part 1", 1L, () -> t.weight(0, 0, 1));
        due("weight, ship 3, kind 2", 1L, () -> t.weight(3, 2, 1));
        due("joined, part 0", -5L, () -> t.joined(0, 0));
        due("joined, part 1", 2L, () -> t.joined(0, 1));
        due("joined, kind 2", 0L, () -> t.joined(2, 0));
        for (int far : FAR) {
            dueNoSuch(far, far, far);
        }
        dueNoSuch(4, 3, 2);
    }

    private void dueNoSuch(int ship, int kind, int part) {
        due("mean, ship " + ship, INDEX, () -> t.mean(ship, 0, 0));
        due("mean, kind " + kind, INDEX, () -> t.mean(0, kind, 0));
        due("mean, part " + part, INDEX, () -> t.mean(0, 0, part));
        due("weight, ship " + ship, INDEX, () -> t.weight(ship, 0, 0));
        due("weight, kind " + kind, INDEX, () -> t.weight(0, kind, 0));
        due("weight, part " + part, INDEX, () -> t.weight(0, 0, part));
        due("joined, kind " + kind, INDEX, () -> t.joined(kind, 0));
        due("joined, part " + part, INDEX, () -> t.joined(0, part));
    }

    private void readersBothTold() {
        of("they are UNLIKE in a haul if both told");
        for (int r = 0; r < 2; r++) {
            int first = r;
            withHauls(3, 0, 1);
            due("one told", false, () -> t.reader(0, first, 100000));
            due("one told twice", false, () -> t.reader(0, first, 1));
            due("none is unlike", NONE, () -> t.unlike(0));
            due("the other one of another haul", false, () -> t.reader(1, 1 - first, 100));
            due("none is unlike", NONE, () -> t.unlike(0));
            due("both told, one of them 0", true, () -> t.reader(0, 1 - first, 0));
            due("that one", 0, () -> t.unlike(0));
        }
    }

    private void dueReaders(int one, int other, boolean unlike) {
        withHauls(3, 2);
        due("one alone", false, () -> t.reader(0, 0, one));
        due(one + " and " + other, unlike, () -> t.reader(0, 1, other));
        due("unlike", unlike ? 0 : NONE, () -> t.unlike(0));
        withHauls(3, 2);
        due("the other one alone", false, () -> t.reader(0, 0, other));
        due(other + " and " + one, unlike, () -> t.reader(0, 1, one));
        due("unlike", unlike ? 0 : NONE, () -> t.unlike(0));
    }

    private void readersAtTheEdge() {
        of("ten times their difference is above the sum of both");
        dueReaders(0, 0, false);
        dueReaders(0, 1, true);
        dueReaders(1, 1, false);
        dueReaders(9, 10, false);
        dueReaders(9, 11, false);
        dueReaders(9, 12, true);
        dueReaders(8, 11, true);
        dueReaders(50, 61, false);
        dueReaders(50, 62, true);
        dueReaders(81819, 100000, false);
        dueReaders(81818, 100000, true);
        dueReaders(81810, 99990, false);
        dueReaders(81810, 99991, true);
        dueReaders(0, 100000, true);
        dueReaders(100000, 100000, false);
    }

    private void readersOfNeighbours() {
        of("READERS tell counts of a haul");
        withHauls(3, 0, 1, 2);
        t.reader(0, 1, 500);
        t.reader(1, 0, 9);
        due("no haul has both", NONE, () -> t.unlike(0));
        t.reader(1, 1, 9);
        t.reader(2, 0, 500);
        due("haul 1 has both, and alike", NONE, () -> t.unlike(0));
        due("haul 0", true, () -> t.reader(0, 0, 9));
        due("haul 2", true, () -> t.reader(2, 1, 9));
        due("haul 1 between them", 2, () -> t.unlike(1));
    }

    private void readersCounts() {
        of("reader: IllegalArgumentException: n is not 0 .. 100000");
        withHauls(3, 0);
        t.reader(0, 1, 100000);
        due("100000", false, () -> t.reader(0, 0, 100000));
        due("100001", ARGUMENT, () -> t.reader(0, 0, 100001));
        due("0", true, () -> t.reader(0, 0, 0));
        due("-1", ARGUMENT, () -> t.reader(0, 0, -1));
        due("it is 0 still", 0, () -> t.unlike(0));
        for (int far : FAR) {
            due("reader 0: " + far, ARGUMENT, () -> t.reader(0, 0, far));
            due("reader 1: " + far, ARGUMENT, () -> t.reader(0, 1, far));
        }
        due("they are unlike still", 0, () -> t.unlike(0));
        due("the other one is 100000 still", false, () -> t.reader(0, 0, 81819));
        of("reader: the exception named first");
        due("no haul and a wrong count", INDEX, () -> t.reader(1, 0, 100001));
        due("no reader and a wrong count", INDEX, () -> t.reader(0, 2, -1));
    }

    private void readersThatThereAre() {
        of("READERS 0, 1");
        withHauls(3, 0, 0);
        due("reader -1", INDEX, () -> t.reader(1, -1, 5));
        due("reader 0", false, () -> t.reader(1, 0, 5));
        due("reader 2", INDEX, () -> t.reader(1, 2, 50));
        due("reader 2 of haul 0 is not reader 0 of haul 1", INDEX, () -> t.reader(0, 2, 50));
        due("reader -1 of haul 1 is not reader 1 of haul 0", INDEX, () -> t.reader(1, -1, 50));
        due("reader 1", false, () -> t.reader(1, 1, 5));
        due("reader 1 of haul 0 has not told", false, () -> t.reader(0, 0, 5));
        due("of the smallest number", INDEX, () -> t.reader(1, Integer.MIN_VALUE, 5));
        due("of the largest number", INDEX, () -> t.reader(1, Integer.MAX_VALUE, 5));
    }

    private void readersToldAgain() {
        of("A READER's count of a haul: whether they are UNLIKE then");
        withHauls(3, 0);
        t.reader(0, 0, 10);
        due("unlike", true, () -> t.reader(0, 1, 20));
        due("told the same again: unlike still", true, () -> t.reader(0, 1, 20));
        due("alike", false, () -> t.reader(0, 1, 11));
        due("none", NONE, () -> t.unlike(0));
        due("unlike by the other one", true, () -> t.reader(0, 0, 20));
        due("haul 0", 0, () -> t.unlike(0));
    }

    private void unlikeOfNoHaul() {
        of("unlike: from is below 0, or above how many there are: of none");
        t = new DeviceTrials(3);
        due("from 0", NONE, () -> t.unlike(0));
        due("from 1", INDEX, () -> t.unlike(1));
        due("from -1", INDEX, () -> t.unlike(-1));
        t.haul(0);
        due("from 1 of one", NONE, () -> t.unlike(1));
        due("from 2 of one", INDEX, () -> t.unlike(2));
    }

    private void unlikeFrom() {
        of("unlike: from is below 0, or above how many there are");
        t = new DeviceTrials(3);
        for (int i = 1; i <= 32; i++) {
            int count = i;
            t.haul(i % 4);
            due("from " + count + " of " + count, NONE, () -> t.unlike(count));
            due("from " + (count + 1) + " of " + count, INDEX, () -> t.unlike(count + 1));
        }
        for (int far : FAR) {
            due("from " + far, INDEX, () -> t.unlike(far));
        }
        due("from 0", NONE, () -> t.unlike(0));
    }

    private void unlikeOfEachHaul() {
        of("The first haul in which they are UNLIKE, from one on; NONE");
        withHaulsOfShip(1, 32);
        for (int h = 31; h >= 0; h--) {
            int haul = h;
            t.reader(haul, 0, 1);
            due("unlike", true, () -> t.reader(haul, 1, 2));
            due("from 0: the first", haul, () -> t.unlike(0));
            due("from itself", haul, () -> t.unlike(haul));
            due("from the next one", haul == 31 ? NONE : haul + 1, () -> t.unlike(haul + 1));
        }
    }

    private Object priced(int kind, int cents) {
        t.price(kind, cents);
        return t.lost();
    }

    private void prices() {
        of("price: IllegalArgumentException: it is not 0 .. 100000");
        withDifferences(-1);
        due("100000", 100000L, () -> priced(0, 100000));
        due("100001", ARGUMENT, () -> priced(0, 100001));
        due("-1", ARGUMENT, () -> priced(0, -1));
        due("it is 100000 still", 100000L, () -> t.lost());
        due("0", 0L, () -> priced(0, 0));
        for (int far : FAR) {
            due("price " + far, ARGUMENT, () -> priced(0, far));
        }
        due("it is 0 still", 0L, () -> t.lost());
        due("1", 1L, () -> priced(0, 1));
        of("price: IndexOutOfBoundsException, named first");
        for (int wrong : new int[] {-1, 3, Integer.MIN_VALUE, Integer.MAX_VALUE}) {
            due("kind " + wrong, INDEX, () -> priced(wrong, 5));
            due("kind " + wrong + " and a wrong price", INDEX, () -> priced(wrong, 100001));
        }
        due("it is 1 still", 1L, () -> t.lost());
        due("kind 2 has no sum", 1L, () -> priced(2, 100000));
    }

    private void pricesStartAtZero() {
        of("prices of kinds (0 at first)");
        for (int k = 0; k < 3; k++) {
            int kind = k;
            withHauls(5, 0, 0);
            t.caught(t.pair(0, 0), kind, 40);
            due("without prices", 0L, () -> t.lost());
            due("other kinds' prices", 0L, () -> priced((kind + 1) % 3, 3));
            due("other kinds' prices", 0L, () -> priced((kind + 2) % 3, 3));
            due("its own", -120L, () -> priced(kind, 3));
        }
    }

    private void lostHasTheOtherSign() {
        of("prices of kinds times SUMS, all together, with the other sign");
        withHauls(5, 0, 0);
        due("without anything", 0L, () -> t.lost());
        int device = t.pair(0, 0);
        int plain = t.pair(0, 1);
        t.caught(device, 0, 7);
        t.caught(plain, 1, 20);
        t.caught(device, 2, 3);
        t.price(0, 10);
        t.price(1, 100);
        t.price(2, 1000);
        due("all three", -70L + 2000 - 3000, () -> t.lost());
        t.caught(plain, 2, 3);
        due("a sum of 0", -70L + 2000, () -> t.lost());
        t.caught(plain, 0, 14);
        due("less with the device", 70L + 2000, () -> t.lost());
    }

    private void lostAtItsEnds() {
        of("LOST: beyond an int");
        for (int side = 0; side < 2; side++) {
            withHaulsOfShip(side, 32);
            for (int pair = 0; pair < 16; pair++) {
                for (int kind = 0; kind < 3; kind++) {
                    t.caught(t.pair(pair, side), kind, 1000);
                }
            }
            for (int kind = 0; kind < 3; kind++) {
                t.price(kind, 100000);
            }
            due("side " + side, side == 0 ? -4800000000L : 4800000000L, () -> t.lost());
        }
    }

    private void lostOfKeptAlone() {
        of("LOST: SUMS are of DIFFERENCES KEPT");
        withDifferences(-5);
        addDifference(1, 3);
        t.price(0, 100);
        due("all ships", 200L, () -> t.lost());
        t.out(1, true);
        due("without ship 1", 500L, () -> t.lost());
        t.out(0, true);
        due("without all", 0L, () -> t.lost());
    }
}
