/** What tests of single answers share: the object at hand, PAIRS made by their counts, fractions. */
abstract class Bench {
    static final String INDEX = Checks.INDEX;
    static final String ARGUMENT = Checks.ARGUMENT;
    static final String STATE = Checks.STATE;
    static final int NONE = DeviceTrials.NONE;
    /** Numbers that are in no range of the document. */
    static final int[] FAR = {-1, Integer.MIN_VALUE, Integer.MAX_VALUE};

    final Checks checks;
    DeviceTrials t;

    Bench(String test) {
        checks = new Checks(test);
    }

    void of(String sentence) {
        checks.of(sentence);
    }

    void due(String what, Object want, Checks.Call call) {
        checks.due(what, want, call);
    }

    void dueFraction(String what, long above, long below, Checks.Call aboveCall, Checks.Call belowCall) {
        due(what + " above", above, aboveCall);
        due(what + " below", below, belowCall);
    }

    void dueOdds(int kind, long above, long below) {
        dueFraction("odds " + kind, above, below, () -> t.odds(kind, 0), () -> t.odds(kind, 1));
    }

    void dueRankOdds(int kind, long above, long below) {
        dueFraction("rankOdds " + kind, above, below, () -> t.rankOdds(kind, 0), () -> t.rankOdds(kind, 1));
    }

    void dueMean(int ship, long above, long below) {
        dueFraction("mean " + ship, above, below, () -> t.mean(ship, 0, 0), () -> t.mean(ship, 0, 1));
    }

    void dueWeight(int ship, long above, long below) {
        dueFraction("weight " + ship, above, below, () -> t.weight(ship, 0, 0), () -> t.weight(ship, 0, 1));
    }

    void dueJoined(long above, long below) {
        dueFraction("joined", above, below, () -> t.joined(0, 0), () -> t.joined(0, 1));
    }

    void dueCrossing(int n, int upper, int lower, long above, long below) {
        dueFraction("crossing " + n + " " + upper + " " + lower, above, below,
                () -> t.crossing(n, upper, lower, 0), () -> t.crossing(n, upper, lower, 1));
    }

    /** Hauls of these ships, told in this order, on a new object. */
    void withHauls(int seed, int... ships) {
        t = new DeviceTrials(seed);
        for (int ship : ships) {
            t.haul(ship);
        }
    }

    /** So many hauls of one ship on a new object. */
    void withHaulsOfShip(int ship, int count) {
        t = new DeviceTrials(7);
        for (int i = 0; i < count; i++) {
            t.haul(ship);
        }
    }

    /** A PAIR of a ship with counts of kind 0 for the haul with the DEVICE and for the PLAIN one. */
    void addPair(int ship, int device, int plain) {
        int first = t.haul(ship);
        int second = t.haul(ship);
        boolean firstHasIt = t.arm(first) == 1;
        t.caught(first, 0, firstHasIt ? device : plain);
        t.caught(second, 0, firstHasIt ? plain : device);
    }

    /** A PAIR of a ship that is KEPT and has this DIFFERENCE of kind 0. */
    void addDifference(int ship, int difference) {
        int least = Math.abs(difference) == 1000 ? 0 : 1;
        addPair(ship, least + Math.max(difference, 0), least + Math.max(-difference, 0));
    }

    /** A new object with PAIRS of ship 0 with these DIFFERENCES, all KEPT. */
    void withDifferences(int... differences) {
        t = new DeviceTrials(7);
        for (int difference : differences) {
            addDifference(0, difference);
        }
    }

    static int[] alike(int count, int value) {
        int[] row = new int[count];
        java.util.Arrays.fill(row, value);
        return row;
    }
}
