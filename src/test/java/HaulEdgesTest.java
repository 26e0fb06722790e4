/** Promises 1 to 9 and their terms: each sentence that names a boundary, on both of its sides. */
public final class HaulEdgesTest extends Bench {
    private HaulEdgesTest() {
        super("HaulEdgesTest");
    }

    public static void main(String[] args) {
        HaulEdgesTest test = new HaulEdgesTest();
        test.seedIsAnyInt();
        test.armIsBit40();
        test.onlyTheFirstOneDraws();
        test.refusedHaulDrawsNothing();
        test.ships();
        test.haulsAreNumberedAsTold();
        test.thirtyTwoHauls();
        test.fullObjectStillAnswers();
        test.secondHaulMakesThePair();
        test.pairsAreNumberedByTheirSecond();
        test.pairsOfOddShips();
        test.haulsThatThereAre();
        test.counts();
        test.countsStartAtZero();
        test.countsOfNeighbours();
        test.kinds();
        test.outIsNewOrNot();
        test.outOfShips();
        test.outBeforeHauls();
        test.pairsThatThereAre();
        test.factsOfPairs();
        test.differencesAtTheirEnds();
        test.differencesOfDroppedPairs();
        test.droppedIfBothAreZero();
        test.droppedIfOut();
        test.keptAtItsEnds();
        test.lastOf512Calls();
        test.checks.end();
    }

    private void dueArms(int seed, String arms) {
        t = new DeviceTrials(seed);
        for (int i = 0; i < arms.length(); i++) {
            int first = t.haul(i % 4);
            int second = t.haul(i % 4);
            int due = arms.charAt(i) - '0';
            due("seed " + seed + ", first haul of pair " + i, due, () -> t.arm(first));
            due("seed " + seed + ", second haul of pair " + i, 1 - due, () -> t.arm(second));
        }
    }

    private void seedIsAnyInt() {
        of("x is SEED at first");
        dueArms(Integer.MIN_VALUE, "1111010001011101");
        dueArms(-1, "1100101110111010");
        dueArms(0, "1000011111010000");
        dueArms(1, "1011011101110010");
        dueArms(Integer.MAX_VALUE, "0011010100111011");
    }

    private void armIsBit40() {
        of("it has the DEVICE if bit 40 of that is 1");
        // With bit 39 these were 0000010010011011, with bit 41 0010100100011001.
        dueArms(5, "0111000100100111");
        dueArms(-9, "1000011001011001");
    }

    private void onlyTheFirstOneDraws() {
        of("of the first one x becomes ..");
        // All four first ones come before any second one; the seconds are turned, and draw nothing.
        withHauls(5, 0, 1, 2, 3, 3, 2, 1, 0, 0);
        int[] arms = {0, 1, 1, 1, 0, 0, 0, 1, 0};
        for (int i = 0; i < arms.length; i++) {
            int haul = i;
            due("arm " + haul, arms[haul], () -> t.arm(haul));
        }
    }

    private void refusedHaulDrawsNothing() {
        of("A call that throws changes nothing: haul");
        t = new DeviceTrials(1);
        due("no ship 4", INDEX, () -> t.haul(4));
        t.haul(0);
        due("the first draw of seed 1", 1, () -> t.arm(0));
        due("no ship -1", INDEX, () -> t.haul(-1));
        due("its number is not used up", 1, () -> t.haul(1));
        due("the second draw of seed 1", 0, () -> t.arm(1));
        due("no pair came of it", 0, () -> t.pairs());
    }

    private void ships() {
        of("SHIPS 0 .. 3");
        t = new DeviceTrials(3);
        due("ship -1", INDEX, () -> t.haul(-1));
        due("ship 0", 0, () -> t.haul(0));
        due("ship 3", 1, () -> t.haul(3));
        due("ship 4", INDEX, () -> t.haul(4));
        due("ship of the smallest number", INDEX, () -> t.haul(Integer.MIN_VALUE));
        due("ship of the largest number", INDEX, () -> t.haul(Integer.MAX_VALUE));
    }

    private void haulsAreNumberedAsTold() {
        of("HAULS 0 .. 31 (as they are told)");
        t = new DeviceTrials(3);
        int[] ships = {3, 3, 3, 0, 2, 0, 1, 3};
        for (int i = 0; i < 32; i++) {
            int ship = ships[i % ships.length];
            due("haul of ship " + ship, i, () -> t.haul(ship));
        }
    }

    private void thirtyTwoHauls() {
        of("IllegalStateException: there are 32");
        withHaulsOfShip(2, 31);
        due("the 32nd", 31, () -> t.haul(2));
        due("16 pairs", 16, () -> t.pairs());
        for (int i = 0; i < 4; i++) {
            int ship = i;
            due("the 33rd, of ship " + ship, STATE, () -> t.haul(ship));
        }
        due("no ship goes before no room", INDEX, () -> t.haul(4));
        due("no ship goes before no room", INDEX, () -> t.haul(-1));
        due("still 16 pairs", 16, () -> t.pairs());
        due("no haul 32", INDEX, () -> t.arm(32));
        withHaulsOfShip(2, 31);
        due("the 32nd of another ship", 31, () -> t.haul(1));
        due("the 33rd would make a pair", STATE, () -> t.haul(1));
        due("15 pairs", 15, () -> t.pairs());
    }

    private void fullObjectStillAnswers() {
        of("there are 32: other calls go on");
        withHaulsOfShip(0, 32);
        due("the 33rd", STATE, () -> t.haul(0));
        due("a count of the last haul", true, () -> t.caught(31, 2, 1000));
        due("the last pair is kept", 1, () -> t.kept(2));
        due("a reader of the last haul", false, () -> t.reader(31, 1, 100000));
        due("the last pair's ship", 0, () -> t.pair(15, 2));
    }

    private void secondHaulMakesThePair() {
        of("the first and second, third and fourth, .. of a ship are PAIRS");
        t = new DeviceTrials(5);
        for (int i = 0; i < 32; i++) {
            int pairs = i / 2;
            due("behind " + i + " hauls", pairs, () -> t.pairs());
            t.haul(1);
        }
        due("behind 32 hauls", 16, () -> t.pairs());
        for (int i = 0; i < 16; i++) {
            int pair = i;
            due("the two hauls of pair " + pair, 4 * pair + 1, () -> t.pair(pair, 0) + t.pair(pair, 1));
            due("its second one follows its first one", 1, () -> Math.abs(t.pair(pair, 0) - t.pair(pair, 1)));
        }
    }

    private void pairsAreNumberedByTheirSecond() {
        of("numbered from 0 on as their second one is told");
        withHauls(5, 0, 1, 2, 3, 3, 2, 1, 0);
        // Arms by seed 5: 0, 1, 1, 1 for the four first ones.
        int[][] facts = {{3, 4, 3}, {2, 5, 2}, {1, 6, 1}, {7, 0, 0}};
        for (int p = 0; p < 4; p++) {
            for (int w = 0; w < 3; w++) {
                int pair = p;
                int what = w;
                due("pair " + pair + ", " + what, facts[pair][what], () -> t.pair(pair, what));
            }
        }
        due("four pairs", 4, () -> t.pairs());
    }

    private void pairsOfOddShips() {
        of("HAULS are of a SHIP: hauls of two ships are no PAIR");
        withHauls(5, 0, 1, 2, 3);
        due("four hauls, no pair", 0, () -> t.pairs());
        due("no pair 0", INDEX, () -> t.pair(0, 2));
        withHauls(5, 0, 1, 0, 2, 0);
        due("three hauls of ship 0: one pair", 1, () -> t.pairs());
        due("no pair 1", INDEX, () -> t.difference(1, 0));
        withHaulsOfShip(0, 29);
        t.haul(1);
        t.haul(2);
        t.haul(3);
        due("32 hauls, four alone", 14, () -> t.pairs());
        due("room is counted in hauls", STATE, () -> t.haul(3));
    }

    private void haulsThatThereAre() {
        of("IndexOutOfBoundsException: there is no such haul");
        t = new DeviceTrials(5);
        due("arm 0 of none", INDEX, () -> t.arm(0));
        due("caught 0 of none", INDEX, () -> t.caught(0, 0, 0));
        due("reader 0 of none", INDEX, () -> t.reader(0, 0, 0));
        for (int i = 0; i < 32; i++) {
            int last = i;
            t.haul(0);
            due("caught " + last, true, () -> t.caught(last, 0, 1));
            due("caught " + (last + 1), INDEX, () -> t.caught(last + 1, 0, 1));
            due("reader " + last, false, () -> t.reader(last, 0, 1));
            due("reader " + (last + 1), INDEX, () -> t.reader(last + 1, 0, 1));
            due("arm " + last, true, () -> t.arm(last) >= 0);
            due("arm " + (last + 1), INDEX, () -> t.arm(last + 1));
        }
        for (int far : FAR) {
            due("arm " + far, INDEX, () -> t.arm(far));
            due("caught " + far, INDEX, () -> t.caught(far, 0, 1));
            due("reader " + far, INDEX, () -> t.reader(far, 0, 1));
        }
    }

    private void counts() {
        of("a count 0 .. 1000");
        withHauls(5, 0);
        due("1000", true, () -> t.caught(0, 0, 1000));
        due("1001", ARGUMENT, () -> t.caught(0, 0, 1001));
        due("it is 1000 still", false, () -> t.caught(0, 0, 1000));
        due("0", true, () -> t.caught(0, 0, 0));
        due("-1", ARGUMENT, () -> t.caught(0, 0, -1));
        due("it is 0 still", false, () -> t.caught(0, 0, 0));
        due("the smallest number", ARGUMENT, () -> t.caught(0, 0, Integer.MIN_VALUE));
        due("the largest number", ARGUMENT, () -> t.caught(0, 0, Integer.MAX_VALUE));
        of("A count of a haul, in place of the one before: whether that is another one");
        due("999", true, () -> t.caught(0, 0, 999));
        due("999 again", false, () -> t.caught(0, 0, 999));
        due("1000 is another one", true, () -> t.caught(0, 0, 1000));
        due("999 is another one again", true, () -> t.caught(0, 0, 999));
    }

    private void countsStartAtZero() {
        of("(0 at first)");
        for (int h = 0; h < 32; h++) {
            withHaulsOfShip(h % 4, 32);
            for (int k = 0; k < 3; k++) {
                int haul = h;
                int kind = k;
                due("0 is no other one", false, () -> t.caught(haul, kind, 0));
                due("1 is", true, () -> t.caught(haul, kind, 1));
            }
        }
    }

    private void countsOfNeighbours() {
        of("A haul has for each KIND a count");
        withHaulsOfShip(0, 32);
        for (int i = 0; i < 96; i++) {
            int haul = i / 3;
            int kind = i % 3;
            due("count " + i, true, () -> t.caught(haul, kind, 1 + haul * 3 + kind));
        }
        for (int i = 0; i < 96; i++) {
            int haul = i / 3;
            int kind = i % 3;
            due("count " + i + " is still there", false, () -> t.caught(haul, kind, 1 + haul * 3 + kind));
        }
    }

    private void kinds() {
        of("KIND 0 .. 2");
        withDifferences(4);
        for (int wrong : new int[] {-1, 3, Integer.MIN_VALUE, Integer.MAX_VALUE}) {
            due("caught " + wrong, INDEX, () -> t.caught(0, wrong, 1));
            due("difference " + wrong, INDEX, () -> t.difference(0, wrong));
            due("kept " + wrong, INDEX, () -> t.kept(wrong));
        }
        for (int right : new int[] {0, 2}) {
            due("caught " + right, true, () -> t.caught(0, right, 77));
            due("difference " + right, true, () -> Math.abs(t.difference(0, right)) >= 72);
            due("kept " + right, 1, () -> t.kept(right));
        }
    }

    private void outIsNewOrNot() {
        of("A ship is left OUT, or not: whether that is new");
        for (int i = 0; i < 4; i++) {
            int ship = i;
            t = new DeviceTrials(5);
            due("not out at first", false, () -> t.out(ship, false));
            due("out", true, () -> t.out(ship, true));
            due("out again", false, () -> t.out(ship, true));
            due("the next ship is not", false, () -> t.out((ship + 1) % 4, false));
            due("in", true, () -> t.out(ship, false));
            due("in again", false, () -> t.out(ship, false));
        }
    }

    private void outOfShips() {
        of("out: IndexOutOfBoundsException");
        t = new DeviceTrials(5);
        for (int wrong : new int[] {-1, 4, Integer.MIN_VALUE, Integer.MAX_VALUE}) {
            due("out " + wrong, INDEX, () -> t.out(wrong, true));
            due("in " + wrong, INDEX, () -> t.out(wrong, false));
        }
        for (int i = 0; i < 4; i++) {
            int ship = i;
            due("nothing changed", false, () -> t.out(ship, false));
        }
    }

    private void outBeforeHauls() {
        of("A PAIR is DROPPED if it is of a ship that is left OUT: left out before its hauls");
        t = new DeviceTrials(5);
        t.out(2, true);
        addPair(2, 9, 3);
        due("its pair is there", 1, () -> t.pairs());
        due("but not kept", 0, () -> t.kept(0));
        addPair(1, 9, 3);
        due("another ship's is", 1, () -> t.kept(0));
        t.out(2, false);
        due("both", 2, () -> t.kept(0));
    }

    private void pairsThatThereAre() {
        of("IndexOutOfBoundsException: there is no such pair");
        t = new DeviceTrials(5);
        due("pair 0 of none", INDEX, () -> t.pair(0, 0));
        due("difference 0 of none", INDEX, () -> t.difference(0, 0));
        due("rank 0 of none", INDEX, () -> t.rank(0, 0));
        for (int i = 0; i < 16; i++) {
            int last = i;
            t.haul(3);
            due("one haul does not do", INDEX, () -> t.pair(last, 2));
            t.haul(3);
            due("pair " + last, 3, () -> t.pair(last, 2));
            due("pair " + (last + 1), INDEX, () -> t.pair(last + 1, 2));
            due("difference " + last, 0, () -> t.difference(last, 0));
            due("difference " + (last + 1), INDEX, () -> t.difference(last + 1, 0));
            due("rank " + last, 0, () -> t.rank(last, 0));
            due("rank " + (last + 1), INDEX, () -> t.rank(last + 1, 0));
        }
        for (int far : FAR) {
            due("pair " + far, INDEX, () -> t.pair(far, 2));
            due("difference " + far, INDEX, () -> t.difference(far, 0));
            due("rank " + far, INDEX, () -> t.rank(far, 0));
        }
    }

    private void factsOfPairs() {
        of("the haul with the DEVICE (what = 0), the PLAIN one (1), its ship (2)");
        // Arms by seed 5: the first haul of pair 0 is plain, that of pair 1 has the device.
        withHauls(5, 3, 3, 1, 1);
        int[][] facts = {{1, 0, 3}, {2, 3, 1}};
        for (int p = 0; p < 2; p++) {
            int pair = p;
            due("what -1", INDEX, () -> t.pair(pair, -1));
            due("what 0", facts[pair][0], () -> t.pair(pair, 0));
            due("what 1", facts[pair][1], () -> t.pair(pair, 1));
            due("what 2", facts[pair][2], () -> t.pair(pair, 2));
            due("what 3", INDEX, () -> t.pair(pair, 3));
            due("arm of what 0", 1, () -> t.arm(t.pair(pair, 0)));
            due("arm of what 1", 0, () -> t.arm(t.pair(pair, 1)));
        }
    }

    private void differencesAtTheirEnds() {
        of("the count with the DEVICE less the PLAIN one's");
        t = new DeviceTrials(5);
        int[][] counts = {{1000, 0}, {0, 1000}, {1000, 1000}, {1, 0}, {0, 1}, {0, 0}};
        int[] differences = {1000, -1000, 0, 1, -1, 0};
        for (int i = 0; i < counts.length; i++) {
            int pair = i;
            addPair(i % 4, counts[i][0], counts[i][1]);
            due("pair " + pair, differences[pair], () -> t.difference(pair, 0));
            due("another kind of pair " + pair, 0, () -> t.difference(pair, 1));
        }
    }

    private void differencesOfDroppedPairs() {
        of("DIFFERENCE of a PAIR of a kind: KEPT or not");
        t = new DeviceTrials(5);
        addPair(1, 3, 12);
        t.out(1, true);
        due("of a ship left out", -9, () -> t.difference(0, 0));
        due("that is not kept", 0, () -> t.kept(0));
    }

    private void droppedIfBothAreZero() {
        of("A PAIR is DROPPED for a kind if both counts are 0");
        int[][] counts = {{0, 0}, {0, 1}, {1, 0}, {1, 1}};
        int[] kept = {0, 1, 1, 1};
        for (int i = 0; i < counts.length; i++) {
            int due = kept[i];
            t = new DeviceTrials(5);
            addPair(0, counts[i][0], counts[i][1]);
            due(counts[i][0] + " and " + counts[i][1], due, () -> t.kept(0));
            due("for this kind alone", 0, () -> t.kept(1));
            t.caught(0, 0, 0);
            t.caught(1, 0, 0);
            due("both 0 again", 0, () -> t.kept(0));
        }
    }

    private void droppedIfOut() {
        of("or if it is of a ship that is left OUT; others are KEPT");
        t = new DeviceTrials(5);
        for (int ship = 0; ship < 4; ship++) {
            addPair(ship, 1 + ship, 0);
        }
        for (int i = 0; i < 4; i++) {
            int ship = i;
            t.out(ship, true);
            due("without ship " + ship, 3, () -> t.kept(0));
            due("the sum without it", 9 - ship, () -> t.sum(0));
            t.out(ship, false);
            due("with ship " + ship, 4, () -> t.kept(0));
        }
        t.caught(t.pair(2, 0), 0, 0);
        t.out(2, true);
        due("dropped for two reasons", 3, () -> t.kept(0));
        t.out(2, false);
        due("one reason does", 3, () -> t.kept(0));
    }

    private void keptAtItsEnds() {
        of("How many PAIRS are KEPT");
        t = new DeviceTrials(5);
        due("no pair", 0, () -> t.kept(0));
        for (int i = 1; i <= 16; i++) {
            int count = i;
            addPair(i % 4, 1, 0);
            due("kept", count, () -> t.kept(0));
            due("pairs", count, () -> t.pairs());
        }
        for (int ship = 0; ship < 4; ship++) {
            t.out(ship, true);
        }
        due("all out", 0, () -> t.kept(0));
        due("they are pairs still", 16, () -> t.pairs());
    }

    private void lastOf512Calls() {
        of("An object is used for at most 512 calls after it has been made");
        withHauls(5, 0, 0);
        for (int call = 2; call < 509; call++) {
            int n = 1 + call % 2;
            due("call " + (call + 1), true, () -> t.caught(1, 0, n));
        }
        due("call 510", 1, () -> t.arm(1));
        due("call 511", 1, () -> t.difference(0, 0));
        due("call 512", 1L, () -> t.odds(0, 0));
    }
}
