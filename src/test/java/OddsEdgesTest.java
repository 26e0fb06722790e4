/** Promises 10 to 16 and their terms: each sentence that names a boundary, on both of its sides. */
public final class OddsEdgesTest extends Bench {
    private OddsEdgesTest() {
        super("OddsEdgesTest");
    }

    public static void main(String[] args) {
        OddsEdgesTest test = new OddsEdgesTest();
        test.sumAtItsEnds();
        test.sumOfKept();
        test.oddsWithoutAnythingKept();
        test.oddsCountEqualSums();
        test.oddsOfDifferencesOfZero();
        test.oddsOfKeptAlone();
        test.oddsOfOneToSixteen();
        test.oddsAtTheirEnds();
        test.partsAndKinds();
        test.rankOfTheUnranked();
        test.rankOfOneAndTwo();
        test.ranksOfSixteen();
        test.rankBySizeWithoutSign();
        test.rankAmongKept();
        test.rankOddsWithoutAny();
        test.rankOddsCountEqualSums();
        test.rankOddsAtTheirEnds();
        test.rankOddsOfKeptAlone();
        test.stoppedWithoutPairs();
        test.stoppedWithTheFirstPair();
        test.stoppedAtBound16();
        test.stoppedNowhereOfSixteen();
        test.stoppedAtTheFirstOne();
        test.stoppedGoesOverKept();
        test.boundsOfStopped();
        test.crossingOfNoStep();
        test.crossingOfTooFewSteps();
        test.crossingComesToTheUpperFirst();
        test.crossingAtItsEnds();
        test.boundsOfCrossing();
        test.leastOfNothing();
        test.leastOfAsMuch();
        test.leastOf40();
        test.leastOfAll();
        test.boundsOfLeast();
        test.checks.end();
    }

    private void sumAtItsEnds() {
        of("SUM of a kind: of all DIFFERENCES KEPT");
        t = new DeviceTrials(3);
        due("without anything", 0, () -> t.sum(0));
        withDifferences(alike(16, 1000));
        due("the largest", 16000, () -> t.sum(0));
        withDifferences(alike(16, -1000));
        due("the smallest", -16000, () -> t.sum(0));
        due("of another kind", 0, () -> t.sum(2));
        due("no kind -1", INDEX, () -> t.sum(-1));
        due("no kind 3", INDEX, () -> t.sum(3));
    }

    private void sumOfKept() {
        of("SUM of a kind: of all DIFFERENCES KEPT");
        withDifferences(7, -3);
        addDifference(1, 100);
        due("of all ships", 104, () -> t.sum(0));
        t.out(1, true);
        due("without ship 1", 4, () -> t.sum(0));
        t.out(0, true);
        due("without all", 0, () -> t.sum(0));
        t.out(1, false);
        due("ship 1 alone", 100, () -> t.sum(0));
    }

    private void oddsWithoutAnythingKept() {
        of("without anything KEPT .. (ODDS 1 / 1)");
        t = new DeviceTrials(3);
        dueOdds(0, 1, 1);
        dueOdds(2, 1, 1);
        addPair(0, 0, 0);
        dueOdds(0, 1, 1);
        addPair(1, 0, 1);
        dueOdds(0, 1, 2);
        dueOdds(1, 1, 1);
        t.out(1, true);
        dueOdds(0, 1, 1);
    }

    private void oddsCountEqualSums() {
        of("how many SIGNS make a sum that is not above the SUM");
        // Sums -2, 0, 0, 2 and the SUM 0.
        withDifferences(1, -1);
        dueOdds(0, 3, 4);
        // Sums -3, -1, 1, 3 and the SUM 1, then -1.
        withDifferences(2, -1);
        dueOdds(0, 3, 4);
        withDifferences(-2, 1);
        dueOdds(0, 1, 2);
        withDifferences(-1);
        dueOdds(0, 1, 2);
        withDifferences(1);
        dueOdds(0, 1, 1);
    }

    private void oddsOfDifferencesOfZero() {
        of("SIGNS are all ways to give each KEPT PAIR's DIFFERENCE: one of 0 too");
        withDifferences(0);
        dueOdds(0, 1, 1);
        withDifferences(0, -1);
        dueOdds(0, 1, 2);
        withDifferences(alike(16, 0));
        dueOdds(0, 1, 1);
        int[] differences = alike(16, 0);
        differences[9] = -1;
        withDifferences(differences);
        dueOdds(0, 1, 2);
    }

    private void oddsOfKeptAlone() {
        of("SIGNS .. each KEPT PAIR's DIFFERENCE");
        withDifferences(-5, -3);
        addDifference(3, -4);
        dueOdds(0, 1, 8);
        t.out(3, true);
        dueOdds(0, 1, 4);
        addPair(2, 0, 0);
        dueOdds(0, 1, 4);
        t.out(0, true);
        dueOdds(0, 1, 1);
        t.out(3, false);
        dueOdds(0, 1, 2);
    }

    private void oddsOfOneToSixteen() {
        of("2 to the number of them");
        for (int count = 1; count <= 16; count++) {
            withDifferences(alike(count, -1000));
            dueOdds(0, 1, 1L << count);
            dueRankOdds(0, 1, 1L << count);
        }
    }

    private void oddsAtTheirEnds() {
        of("ODDS: .. by all");
        withDifferences(alike(16, 1000));
        dueOdds(0, 1, 1);
        int[] differences = alike(16, 1000);
        differences[0] = -1;
        withDifferences(differences);
        // Only the signs that make the 1 a plus as well are above.
        dueOdds(0, 65535, 65536);
        differences = alike(16, -1000);
        differences[15] = 1;
        withDifferences(differences);
        dueOdds(0, 1, 32768);
        differences[15] = 1000;
        withDifferences(differences);
        dueOdds(0, 17, 65536);
    }

    private void partsAndKinds() {
        of("Fractions are told above (part = 0) and below (1)");
        withDifferences(-5);
        due("odds, part -1", INDEX, () -> t.odds(0, -1));
        due("odds, part 0", 1L, () -> t.odds(0, 0));
        due("odds, part 1", 2L, () -> t.odds(0, 1));
        due("odds, part 2", INDEX, () -> t.odds(0, 2));
        due("rankOdds, part -1", INDEX, () -> t.rankOdds(0, -1));
        due("rankOdds, part 0", 1L, () -> t.rankOdds(0, 0));
        due("rankOdds, part 1", 2L, () -> t.rankOdds(0, 1));
        due("rankOdds, part 2", INDEX, () -> t.rankOdds(0, 2));
        due("crossing, part -1", INDEX, () -> t.crossing(2, 2, 1, -1));
        due("crossing, part 0", 1L, () -> t.crossing(2, 2, 1, 0));
        due("crossing, part 1", 4L, () -> t.crossing(2, 2, 1, 1));
        due("crossing, part 2", INDEX, () -> t.crossing(2, 2, 1, 2));
        of("KIND 0 .. 2");
        for (int wrong : new int[] {-1, 3}) {
            due("odds, kind " + wrong, INDEX, () -> t.odds(wrong, 0));
            due("rankOdds, kind " + wrong, INDEX, () -> t.rankOdds(wrong, 0));
            due("rank, kind " + wrong, INDEX, () -> t.rank(0, wrong));
            due("stopped, kind " + wrong, INDEX, () -> t.stopped(wrong, 1, 1));
        }
        due("odds, kind 2", 1L, () -> t.odds(2, 0));
        due("rankOdds, kind 2", 1L, () -> t.rankOdds(2, 0));
        due("rank, kind 2", 0, () -> t.rank(0, 2));
        due("stopped, kind 2", NONE, () -> t.stopped(2, 1, 1));
    }

    private void rankOfTheUnranked() {
        of("The RANK of a PAIR; 0 if it is not among them");
        t = new DeviceTrials(3);
        addPair(0, 0, 0);
        addPair(0, 5, 5);
        addPair(0, 5, 6);
        addPair(1, 5, 4);
        due("dropped", 0, () -> t.rank(0, 0));
        due("of no difference", 0, () -> t.rank(1, 0));
        due("of 1 below", 3, () -> t.rank(2, 0));
        due("of 1 above", 3, () -> t.rank(3, 0));
        t.out(1, true);
        due("left out", 0, () -> t.rank(3, 0));
        due("alone then", 2, () -> t.rank(2, 0));
        due("of a kind that none caught", 0, () -> t.rank(2, 1));
    }

    private void rankOfOneAndTwo() {
        of("twice how many have a lesser size, and how many have the same (itself too), and 1");
        withDifferences(-1);
        due("alone", 2, () -> t.rank(0, 0));
        addDifference(1, 1000);
        due("the lesser", 2, () -> t.rank(0, 0));
        due("the larger", 4, () -> t.rank(1, 0));
        addDifference(2, 999);
        due("999", 4, () -> t.rank(2, 0));
        due("1000", 6, () -> t.rank(1, 0));
        addDifference(3, -1000);
        due("1000 twice", 7, () -> t.rank(1, 0));
        due("1000 twice", 7, () -> t.rank(3, 0));
        due("999 stays", 4, () -> t.rank(2, 0));
    }

    private void ranksOfSixteen() {
        of("RANKS: .. by their size without sign");
        int[] differences = new int[16];
        for (int i = 0; i < 16; i++) {
            differences[i] = i % 2 == 0 ? 16 - i : i - 16;
        }
        withDifferences(differences);
        for (int i = 0; i < 16; i++) {
            int pair = i;
            due("all other sizes", 2 * (16 - pair), () -> t.rank(pair, 0));
        }
        withDifferences(alike(16, 8));
        due("all the same, the first", 17, () -> t.rank(0, 0));
        due("all the same, the last", 17, () -> t.rank(15, 0));
    }

    private void rankBySizeWithoutSign() {
        of("by their size without sign");
        withDifferences(-10, 9, -11);
        due("-10", 4, () -> t.rank(0, 0));
        due("9", 2, () -> t.rank(1, 0));
        due("-11", 6, () -> t.rank(2, 0));
    }

    private void rankAmongKept() {
        of("RANKS: KEPT PAIRS whose DIFFERENCE is not 0");
        withDifferences(6, 0, 0);
        addDifference(1, 5);
        addDifference(2, 6);
        due("with all", 5, () -> t.rank(0, 0));
        t.out(1, true);
        due("without the lesser one", 3, () -> t.rank(0, 0));
        t.out(2, true);
        due("without the same one", 2, () -> t.rank(0, 0));
    }

    private void rankOddsWithoutAny() {
        of("RANK ODDS (1 / 1 without any)");
        t = new DeviceTrials(3);
        dueRankOdds(0, 1, 1);
        addPair(0, 4, 4);
        dueRankOdds(0, 1, 1);
        addPair(1, 4, 5);
        dueRankOdds(0, 1, 2);
        t.out(1, true);
        dueRankOdds(0, 1, 1);
    }

    private void rankOddsCountEqualSums() {
        of("a sum of RANKS not above RANKED");
        // RANKS 3 and 3, RANKED 3: of 0, 3, 3, 6 three are not above it.
        withDifferences(7, -7);
        dueRankOdds(0, 3, 4);
        // RANKS 2, 4 and 6, RANKED 6: of 0, 2, 4, 6, 6, 8, 10, 12 five are not above it.
        withDifferences(1, 2, -3);
        dueRankOdds(0, 5, 8);
        // The same RANKED by the one of rank 6 alone.
        withDifferences(-1, -2, 3);
        dueRankOdds(0, 5, 8);
        withDifferences(1);
        dueRankOdds(0, 1, 1);
        withDifferences(-1);
        dueRankOdds(0, 1, 2);
    }

    private void rankOddsAtTheirEnds() {
        of("RANK ODDS: .. by all (2 to their number)");
        int[] differences = new int[16];
        for (int i = 0; i < 16; i++) {
            differences[i] = 10 * (i + 1);
        }
        withDifferences(differences);
        dueRankOdds(0, 1, 1);
        differences[0] = -10;
        withDifferences(differences);
        // Only all together are above all but the least.
        dueRankOdds(0, 65535, 65536);
        for (int i = 0; i < 16; i++) {
            differences[i] = i == 0 ? 10 : -10 * (i + 1);
        }
        withDifferences(differences);
        dueRankOdds(0, 1, 32768);
        differences[0] = -10;
        withDifferences(differences);
        dueRankOdds(0, 1, 65536);
    }

    private void rankOddsOfKeptAlone() {
        of("RANKED is the sum of RANKS of those with a DIFFERENCE above 0");
        withDifferences(0, -2, 0);
        addDifference(1, 2);
        dueRankOdds(0, 3, 4);
        t.out(1, true);
        // A DIFFERENCE of 0 is a KEPT PAIR's, but has no RANK.
        dueRankOdds(0, 1, 2);
        t.out(0, true);
        t.out(1, false);
        dueRankOdds(0, 1, 1);
    }

    private void stoppedWithoutPairs() {
        of("The PAIR at which a kind STOPPED ..; NONE");
        t = new DeviceTrials(3);
        due("no pairs", NONE, () -> t.stopped(0, 1, 1));
        withDifferences(0, 0);
        due("at 0 is no bound", NONE, () -> t.stopped(0, 1, 1));
        addDifference(0, -1);
        due("one up", 4, () -> t.stopped(0, 1, 1));
        due("of another kind", NONE, () -> t.stopped(1, 1, 1));
    }

    private void stoppedWithTheFirstPair() {
        of("STOPPED as better (2 * pair) or worse (2 * pair + 1)");
        withDifferences(-1);
        due("better with pair 0", 0, () -> t.stopped(0, 1, 1));
        due("not yet at 2", NONE, () -> t.stopped(0, 2, 1));
        withDifferences(1);
        due("worse with pair 0", 1, () -> t.stopped(0, 1, 1));
        due("not yet at -2", NONE, () -> t.stopped(0, 1, 2));
    }

    private void stoppedAtBound16() {
        of("at the first PAIR with which it is the upper bound; minus the lower bound");
        withDifferences(alike(15, -1));
        due("15 up of 16", NONE, () -> t.stopped(0, 16, 1));
        due("15 up of 15", 28, () -> t.stopped(0, 15, 1));
        addDifference(0, -1000);
        due("16 up of 16", 30, () -> t.stopped(0, 16, 1));
        withDifferences(alike(15, 1));
        due("15 down of 16", NONE, () -> t.stopped(0, 1, 16));
        due("15 down of 15", 29, () -> t.stopped(0, 1, 15));
        addDifference(0, 1000);
        due("16 down of 16", 31, () -> t.stopped(0, 1, 16));
    }

    private void stoppedNowhereOfSixteen() {
        of("The PAIR at which a kind STOPPED ..; NONE: with all pairs that there can be");
        int[] differences = new int[16];
        for (int i = 0; i < 16; i++) {
            differences[i] = i % 2 == 0 ? -1 : 1;
        }
        withDifferences(differences);
        due("up and down", NONE, () -> t.stopped(0, 2, 1));
        due("up at once", 0, () -> t.stopped(0, 1, 1));
        differences[14] = 1;
        withDifferences(differences);
        due("down with the last one", 31, () -> t.stopped(0, 2, 2));
        due("not so far down", NONE, () -> t.stopped(0, 2, 3));
        due("a kind that none caught", NONE, () -> t.stopped(1, 1, 1));
    }

    private void stoppedAtTheFirstOne() {
        of("at the first PAIR with which it is ..");
        withDifferences(-1, -1, 1, 1, 1, 1, -1, -1, -1, -1);
        due("better at 1, worse later", 2, () -> t.stopped(0, 2, 2));
        due("worse at 5, as 3 is never met", 11, () -> t.stopped(0, 3, 2));
        due("the second time counts for nothing", 0, () -> t.stopped(0, 1, 3));
        due("worse at 4", 9, () -> t.stopped(0, 3, 1));
        due("neither", NONE, () -> t.stopped(0, 3, 3));
    }

    private void stoppedGoesOverKept() {
        of("going over KEPT PAIRS by numbers");
        t = new DeviceTrials(3);
        addPair(0, 0, 0);
        addDifference(1, 3);
        addDifference(0, -3);
        addPair(2, 6, 6);
        addDifference(0, -3);
        due("down at first", 3, () -> t.stopped(0, 1, 1));
        due("up to 1 with pair 4", 8, () -> t.stopped(0, 1, 2));
        t.out(1, true);
        due("without the step down", 4, () -> t.stopped(0, 1, 1));
        due("up to 2", 8, () -> t.stopped(0, 2, 1));
        t.out(0, true);
        due("none left", NONE, () -> t.stopped(0, 1, 1));
    }

    private void boundsOfStopped() {
        of("stopped: IllegalArgumentException: a bound is not 1 .. 16");
        withDifferences(-1);
        for (int right : new int[] {1, 16}) {
            due("upper " + right, right == 1 ? 0 : NONE, () -> t.stopped(0, right, 5));
            due("lower " + right, 0, () -> t.stopped(0, 1, right));
        }
        for (int wrong : new int[] {0, 17, -1, Integer.MIN_VALUE, Integer.MAX_VALUE}) {
            due("upper " + wrong, ARGUMENT, () -> t.stopped(0, wrong, 1));
            due("lower " + wrong, ARGUMENT, () -> t.stopped(0, 1, wrong));
            due("no kind goes before", INDEX, () -> t.stopped(3, wrong, wrong));
        }
    }

    private void crossingOfNoStep() {
        of("CROSSING: of all ways to go n steps");
        t = new DeviceTrials(3);
        dueCrossing(0, 1, 1, 0, 1);
        dueCrossing(0, 16, 16, 0, 1);
        dueCrossing(1, 1, 1, 1, 2);
        dueCrossing(1, 1, 16, 1, 2);
    }

    private void crossingOfTooFewSteps() {
        of("how many come to the upper bound");
        t = new DeviceTrials(3);
        for (int upper = 1; upper <= 16; upper++) {
            dueCrossing(upper - 1, upper, 1, 0, 1);
            dueCrossing(upper, upper, 1, 1, 1L << upper);
            dueCrossing(upper - 1, upper, 16, 0, 1);
            dueCrossing(upper, upper, 16, 1, 1L << upper);
        }
    }

    private void crossingComesToTheUpperFirst() {
        of("come to the upper bound before they come to minus the lower one");
        t = new DeviceTrials(3);
        dueCrossing(3, 1, 1, 1, 2);
        dueCrossing(3, 1, 2, 5, 8);
        // Of 18 steps with one down to 16: 16 ways have it on the way, one of them at once.
        dueCrossing(18, 16, 1, 19, 1 << 18);
        dueCrossing(18, 16, 2, 20 / 4, 1 << 16);
        // A way that has come to the upper bound counts wherever it goes then.
        dueCrossing(2, 1, 1, 1, 2);
        dueCrossing(40, 1, 1, 1, 2);
    }

    private void crossingAtItsEnds() {
        of("CROSSING: .. by all (2 to n)");
        t = new DeviceTrials(3);
        dueCrossing(40, 2, 1, 366503875925L, 1L << 40);
        dueCrossing(40, 16, 16, 790809289L, 1L << 36);
        dueCrossing(39, 16, 16, 20348061L, 1L << 31);
        dueCrossing(40, 1, 16, 240416269799L, 1L << 38);
        dueCrossing(39, 1, 16, 240416269799L, 1L << 38);
        dueCrossing(40, 16, 1, 987331865L, 1L << 37);
        dueCrossing(40, 15, 16, 2279975263L, 1L << 37);
    }

    private void boundsOfCrossing() {
        of("crossing: IllegalArgumentException: n is not 0 .. 40, or a bound not 1 .. 16");
        t = new DeviceTrials(3);
        due("n = 0", 1L, () -> t.crossing(0, 1, 1, 1));
        due("n = 40", 2L, () -> t.crossing(40, 1, 1, 1));
        due("upper 16", 0L, () -> t.crossing(1, 16, 1, 0));
        due("lower 16", 1L, () -> t.crossing(1, 1, 16, 0));
        for (int wrong : new int[] {-1, 41, Integer.MIN_VALUE, Integer.MAX_VALUE}) {
            due("n = " + wrong, ARGUMENT, () -> t.crossing(wrong, 1, 1, 0));
            due("no part goes before", INDEX, () -> t.crossing(wrong, 1, 1, 2));
        }
        for (int wrong : new int[] {0, 17, -1, Integer.MIN_VALUE, Integer.MAX_VALUE}) {
            due("upper " + wrong, ARGUMENT, () -> t.crossing(1, wrong, 1, 0));
            due("lower " + wrong, ARGUMENT, () -> t.crossing(1, 1, wrong, 0));
            due("no part goes before", INDEX, () -> t.crossing(1, wrong, 1, -1));
            due("no part goes before", INDEX, () -> t.crossing(1, 1, wrong, 2));
        }
    }

    private void leastOfNothing() {
        of("The least n (0 .. 40)");
        t = new DeviceTrials(3);
        due("0 / 1", 0, () -> t.least(16, 1, 0, 1));
        due("0 / 1000", 0, () -> t.least(1, 16, 0, 1000));
        due("1 / 1000 of bound 1", 1, () -> t.least(1, 1, 1, 1000));
        due("1 / 1000 of bound 9", 9, () -> t.least(9, 1, 1, 512));
        due("more than 1 / 512", 11, () -> t.least(9, 1, 1, 511));
    }

    private void leastOfAsMuch() {
        of("with which CROSSING is above / below or more");
        t = new DeviceTrials(3);
        due("1 / 2", 1, () -> t.least(1, 1, 1, 2));
        due("500 / 1000", 1, () -> t.least(1, 1, 500, 1000));
        due("500 / 999", NONE, () -> t.least(1, 1, 500, 999));
        due("499 / 999", 1, () -> t.least(1, 1, 499, 999));
        due("5 / 16", 4, () -> t.least(2, 1, 5, 16));
        due("4 / 13, less", 4, () -> t.least(2, 1, 4, 13));
        due("6 / 19, more", 6, () -> t.least(2, 1, 6, 19));
        due("5 / 8", 3, () -> t.least(1, 2, 5, 8));
        due("1 / 2 with room", 1, () -> t.least(1, 2, 1, 2));
    }

    private void leastOf40() {
        of("The least n (0 .. 40) ..; NONE if none is");
        t = new DeviceTrials(3);
        due("just with 40", 40, () -> t.least(16, 16, 1, 87));
        due("not with 40", NONE, () -> t.least(16, 16, 1, 86));
        due("just with 40", 40, () -> t.least(2, 5, 12, 17));
        due("before 40", 26, () -> t.least(16, 16, 1, 1000));
    }

    private void leastOfAll() {
        of("above not 0 .. below");
        t = new DeviceTrials(3);
        due("1 / 1 is allowed, but never met", NONE, () -> t.least(1, 16, 1, 1));
        due("1000 / 1000", NONE, () -> t.least(1, 16, 1000, 1000));
        due("2 / 1", ARGUMENT, () -> t.least(1, 16, 2, 1));
        due("1001 / 1000", ARGUMENT, () -> t.least(1, 16, 1001, 1000));
        due("0 / 1", 0, () -> t.least(1, 16, 0, 1));
        due("-1 / 1", ARGUMENT, () -> t.least(1, 16, -1, 1));
        due("-1 / 1000", ARGUMENT, () -> t.least(1, 16, -1, 1000));
    }

    private void boundsOfLeast() {
        of("least: IllegalArgumentException: below is not 1 .. 1000, or a bound not 1 .. 16");
        t = new DeviceTrials(3);
        due("below 1", 0, () -> t.least(1, 1, 0, 1));
        due("below 1000", 0, () -> t.least(1, 1, 0, 1000));
        for (int wrong : new int[] {0, 1001, -1, Integer.MIN_VALUE, Integer.MAX_VALUE}) {
            due("below " + wrong, ARGUMENT, () -> t.least(1, 1, 0, wrong));
        }
        for (int right : new int[] {1, 16}) {
            due("upper " + right, 0, () -> t.least(right, 1, 0, 1));
            due("lower " + right, 0, () -> t.least(1, right, 0, 1));
        }
        for (int wrong : new int[] {0, 17, -1, Integer.MIN_VALUE, Integer.MAX_VALUE}) {
            due("upper " + wrong, ARGUMENT, () -> t.least(wrong, 1, 0, 1));
            due("lower " + wrong, ARGUMENT, () -> t.least(1, wrong, 0, 1));
        }
        for (int far : FAR) {
            due("above " + far, ARGUMENT, () -> t.least(1, 1, far, 1000));
        }
    }
}
