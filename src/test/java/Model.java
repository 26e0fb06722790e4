import java.math.BigInteger;
import java.util.ArrayList;
import java.util.HashMap;
import java.util.List;
import java.util.Map;

/** The document's terms word by word, with no care for speed: what DeviceTrials is held against. */
final class Model {
    private static final BigInteger TWO_64 = BigInteger.ONE.shiftLeft(64);
    private static final BigInteger FACTOR = new BigInteger("6364136223846793005");
    private static final BigInteger ADDEND = new BigInteger("1442695040888963407");

    private static final class Haul {
        int ship;
        boolean device;
        final int[] counts = new int[3];
        final Integer[] told = new Integer[2];
    }

    private static final class Pair {
        int device;
        int plain;
        int ship;
    }

    private record Fraction(BigInteger above, BigInteger below) {
        static Fraction of(long above, long below) {
            return new Fraction(BigInteger.valueOf(above), BigInteger.valueOf(below));
        }

        Fraction plus(Fraction o) {
            return new Fraction(above.multiply(o.below).add(o.above.multiply(below)), below.multiply(o.below));
        }

        Fraction times(Fraction o) {
            return new Fraction(above.multiply(o.above), below.multiply(o.below));
        }

        long part(int part) {
            BigInteger divisor = above.gcd(below);
            return (part == 0 ? above : below).divide(divisor).longValueExact();
        }
    }

    private BigInteger x;
    private final List<Haul> hauls = new ArrayList<>();
    private final List<Pair> pairs = new ArrayList<>();
    private final boolean[] out = new boolean[4];
    private final long[] prices = new long[3];

    Model(int seed) {
        x = BigInteger.valueOf(seed).mod(TWO_64);
    }

    private static void index(int i, int count) {
        if (i < 0 || i >= count) {
            throw new IndexOutOfBoundsException();
        }
    }

    private static void number(int n, int least, int most) {
        if (n < least || n > most) {
            throw new IllegalArgumentException();
        }
    }

    int haul(int ship) {
        index(ship, 4);
        if (hauls.size() == 32) {
            throw new IllegalStateException();
        }
        List<Integer> ofShip = new ArrayList<>();
        for (int i = 0; i < hauls.size(); i++) {
            if (hauls.get(i).ship == ship) {
                ofShip.add(i);
            }
        }
        Haul haul = new Haul();
        haul.ship = ship;
        hauls.add(haul);
        int number = hauls.size() - 1;
        if (ofShip.size() % 2 == 0) {
            x = x.multiply(FACTOR).add(ADDEND).mod(TWO_64);
            haul.device = x.testBit(40);
        } else {
            int first = ofShip.get(ofShip.size() - 1);
            haul.device = !hauls.get(first).device;
            Pair pair = new Pair();
            pair.ship = ship;
            pair.device = haul.device ? number : first;
            pair.plain = haul.device ? first : number;
            pairs.add(pair);
        }
        return number;
    }

    boolean caught(int haul, int kind, int n) {
        index(haul, hauls.size());
        index(kind, 3);
        number(n, 0, 1000);
        int before = hauls.get(haul).counts[kind];
        hauls.get(haul).counts[kind] = n;
        return before != n;
    }

    boolean out(int ship, boolean on) {
        index(ship, 4);
        boolean before = out[ship];
        out[ship] = on;
        return before != on;
    }

    int arm(int haul) {
        index(haul, hauls.size());
        return hauls.get(haul).device ? 1 : 0;
    }

    int pair(int pair, int what) {
        index(pair, pairs.size());
        index(what, 3);
        Pair p = pairs.get(pair);
        return new int[] {p.device, p.plain, p.ship}[what];
    }

    int pairs() {
        return pairs.size();
    }

    int difference(int pair, int kind) {
        index(pair, pairs.size());
        index(kind, 3);
        Pair p = pairs.get(pair);
        return hauls.get(p.device).counts[kind] - hauls.get(p.plain).counts[kind];
    }

    private List<Integer> keptPairs(int kind) {
        List<Integer> kept = new ArrayList<>();
        for (int i = 0; i < pairs.size(); i++) {
            Pair p = pairs.get(i);
            boolean empty = hauls.get(p.device).counts[kind] + hauls.get(p.plain).counts[kind] == 0;
            if (!empty && !out[p.ship]) {
                kept.add(i);
            }
        }
        return kept;
    }

    int kept(int kind) {
        index(kind, 3);
        return keptPairs(kind).size();
    }

    int sum(int kind) {
        index(kind, 3);
        int sum = 0;
        for (int pair : keptPairs(kind)) {
            sum += difference(pair, kind);
        }
        return sum;
    }

    long odds(int kind, int part) {
        index(kind, 3);
        index(part, 2);
        List<Integer> kept = keptPairs(kind);
        int sum = sum(kind);
        int[] differences = new int[kept.size()];
        for (int i = 0; i < differences.length; i++) {
            differences[i] = difference(kept.get(i), kind);
        }
        long count = 0;
        for (int signs = 0; signs < 1 << differences.length; signs++) {
            int other = 0;
            for (int i = 0; i < differences.length; i++) {
                other += (signs >> i & 1) == 0 ? differences[i] : -differences[i];
            }
            count += other <= sum ? 1 : 0;
        }
        return Fraction.of(count, 1L << differences.length).part(part);
    }

    private List<Integer> ranked(int kind) {
        List<Integer> ranked = new ArrayList<>();
        for (int pair : keptPairs(kind)) {
            if (difference(pair, kind) != 0) {
                ranked.add(pair);
            }
        }
        return ranked;
    }

    int rank(int pair, int kind) {
        index(pair, pairs.size());
        index(kind, 3);
        if (!ranked(kind).contains(pair)) {
            return 0;
        }
        int size = Math.abs(difference(pair, kind));
        int lesser = 0;
        int same = 0;
        for (int other : ranked(kind)) {
            int otherSize = Math.abs(difference(other, kind));
            lesser += otherSize < size ? 1 : 0;
            same += otherSize == size ? 1 : 0;
        }
        return 2 * lesser + same + 1;
    }

    long rankOdds(int kind, int part) {
        index(kind, 3);
        index(part, 2);
        List<Integer> ranked = ranked(kind);
        int[] ranks = new int[ranked.size()];
        int due = 0;
        for (int i = 0; i < ranks.length; i++) {
            ranks[i] = rank(ranked.get(i), kind);
            due += difference(ranked.get(i), kind) > 0 ? ranks[i] : 0;
        }
        long count = 0;
        for (int chosen = 0; chosen < 1 << ranks.length; chosen++) {
            int sum = 0;
            for (int i = 0; i < ranks.length; i++) {
                sum += (chosen >> i & 1) * ranks[i];
            }
            count += sum <= due ? 1 : 0;
        }
        return Fraction.of(count, 1L << ranks.length).part(part);
    }

    int stopped(int kind, int upper, int lower) {
        index(kind, 3);
        number(upper, 1, 16);
        number(lower, 1, 16);
        int at = 0;
        for (int pair : keptPairs(kind)) {
            int difference = difference(pair, kind);
            if (difference < 0) {
                at++;
            }
            if (difference > 0) {
                at--;
            }
            if (at == upper) {
                return 2 * pair;
            }
            if (at == -lower) {
                return 2 * pair + 1;
            }
        }
        return -1;
    }

    /** How many ways of so many steps, from a place on, come to the upper bound first. */
    private static BigInteger ways(int steps, int at, int upper, int lower, Map<Integer, BigInteger> known) {
        if (at == upper) {
            return BigInteger.TWO.pow(steps);
        }
        if (at == -lower || steps == 0) {
            return BigInteger.ZERO;
        }
        int key = steps * 100 + at + 50;
        if (!known.containsKey(key)) {
            known.put(key, ways(steps - 1, at + 1, upper, lower, known)
                    .add(ways(steps - 1, at - 1, upper, lower, known)));
        }
        return known.get(key);
    }

    long crossing(int n, int upper, int lower, int part) {
        index(part, 2);
        number(n, 0, 40);
        number(upper, 1, 16);
        number(lower, 1, 16);
        return new Fraction(ways(n, 0, upper, lower, new HashMap<>()), BigInteger.TWO.pow(n)).part(part);
    }

    int least(int upper, int lower, int above, int below) {
        number(below, 1, 1000);
        number(above, 0, below);
        number(upper, 1, 16);
        number(lower, 1, 16);
        for (int n = 0; n <= 40; n++) {
            BigInteger left = BigInteger.valueOf(crossing(n, upper, lower, 0)).multiply(BigInteger.valueOf(below));
            BigInteger right = BigInteger.valueOf(crossing(n, upper, lower, 1)).multiply(BigInteger.valueOf(above));
            if (left.compareTo(right) >= 0) {
                return n;
            }
        }
        return -1;
    }

    private Fraction meanOf(int ship, int kind) {
        long sum = 0;
        long count = 0;
        for (int pair : keptPairs(kind)) {
            if (pairs.get(pair).ship == ship) {
                sum += difference(pair, kind);
                count++;
            }
        }
        return count == 0 ? Fraction.of(0, 1) : Fraction.of(sum, count);
    }

    private Fraction weightOf(int ship, int kind) {
        List<Integer> kept = keptPairs(kind);
        long count = 0;
        for (int pair : kept) {
            count += pairs.get(pair).ship == ship ? 1 : 0;
        }
        return kept.isEmpty() ? Fraction.of(0, 1) : Fraction.of(count, kept.size());
    }

    long mean(int ship, int kind, int part) {
        index(ship, 4);
        index(kind, 3);
        index(part, 2);
        return meanOf(ship, kind).part(part);
    }

    long weight(int ship, int kind, int part) {
        index(ship, 4);
        index(kind, 3);
        index(part, 2);
        return weightOf(ship, kind).part(part);
    }

    long joined(int kind, int part) {
        index(kind, 3);
        index(part, 2);
        Fraction joined = Fraction.of(0, 1);
        for (int ship = 0; ship < 4; ship++) {
            joined = joined.plus(weightOf(ship, kind).times(meanOf(ship, kind)));
        }
        return joined.part(part);
    }

    private boolean isUnlike(int haul) {
        Integer[] told = hauls.get(haul).told;
        return told[0] != null && told[1] != null && 10 * Math.abs(told[0] - told[1]) > told[0] + told[1];
    }

    boolean reader(int haul, int reader, int n) {
        index(haul, hauls.size());
        index(reader, 2);
        number(n, 0, 100000);
        hauls.get(haul).told[reader] = n;
        return isUnlike(haul);
    }

    int unlike(int from) {
        index(from, hauls.size() + 1);
        for (int haul = from; haul < hauls.size(); haul++) {
            if (isUnlike(haul)) {
                return haul;
            }
        }
        return -1;
    }

    void price(int kind, int cents) {
        index(kind, 3);
        number(cents, 0, 100000);
        prices[kind] = cents;
    }

    long lost() {
        long all = 0;
        for (int kind = 0; kind < 3; kind++) {
            all += prices[kind] * sum(kind);
        }
        return -all;
    }
}
