import java.util.ArrayList;
import java.util.List;

/**
 * Every call of the face with its arguments on both sides of every boundary, in all ways to put them
 * together: which exception it throws, and that a call that throws changes nothing.
 */
public final class RefusalsTest {
    /** What an argument has to be, and which exception it makes otherwise. */
    private enum Range {
        SHIP(0, 3, Checks.INDEX),
        HAUL(0, 31, Checks.INDEX),
        PAIR(0, 15, Checks.INDEX),
        KIND(0, 2, Checks.INDEX),
        WHAT(0, 2, Checks.INDEX),
        PART(0, 1, Checks.INDEX),
        READER(0, 1, Checks.INDEX),
        FROM(0, 32, Checks.INDEX),
        COUNT(0, 1000, Checks.ARGUMENT),
        READING(0, 100000, Checks.ARGUMENT),
        CENTS(0, 100000, Checks.ARGUMENT),
        BOUND(1, 16, Checks.ARGUMENT),
        STEPS(0, 40, Checks.ARGUMENT),
        ABOVE(0, 1000, Checks.ARGUMENT),
        BELOW(1, 1000, Checks.ARGUMENT);

        final int least;
        final int most;
        final String otherwise;

        Range(int least, int most, String otherwise) {
            this.least = least;
            this.most = most;
            this.otherwise = otherwise;
        }

        int most(int hauls, int pairs) {
            switch (this) {
                case HAUL: return hauls - 1;
                case PAIR: return pairs - 1;
                case FROM: return hauls;
                default: return most;
            }
        }
    }

    private interface Ask {
        Object of(DeviceTrials t, int[] a);
    }

    private record Face(String name, Ask ask, Range... ranges) {
    }

    private static final Face[] FACES = {
        new Face("haul", (t, a) -> t.haul(a[0]), Range.SHIP),
        new Face("caught", (t, a) -> t.caught(a[0], a[1], a[2]), Range.HAUL, Range.KIND, Range.COUNT),
        new Face("out on", (t, a) -> t.out(a[0], true), Range.SHIP),
        new Face("out off", (t, a) -> t.out(a[0], false), Range.SHIP),
        new Face("arm", (t, a) -> t.arm(a[0]), Range.HAUL),
        new Face("pair", (t, a) -> t.pair(a[0], a[1]), Range.PAIR, Range.WHAT),
        new Face("pairs", (t, a) -> t.pairs()),
        new Face("difference", (t, a) -> t.difference(a[0], a[1]), Range.PAIR, Range.KIND),
        new Face("kept", (t, a) -> t.kept(a[0]), Range.KIND),
        new Face("sum", (t, a) -> t.sum(a[0]), Range.KIND),
        new Face("odds", (t, a) -> t.odds(a[0], a[1]), Range.KIND, Range.PART),
        new Face("rank", (t, a) -> t.rank(a[0], a[1]), Range.PAIR, Range.KIND),
        new Face("rankOdds", (t, a) -> t.rankOdds(a[0], a[1]), Range.KIND, Range.PART),
        new Face("stopped", (t, a) -> t.stopped(a[0], a[1], a[2]), Range.KIND, Range.BOUND, Range.BOUND),
        new Face("crossing", (t, a) -> t.crossing(a[0], a[1], a[2], a[3]),
                Range.STEPS, Range.BOUND, Range.BOUND, Range.PART),
        new Face("least", (t, a) -> t.least(a[0], a[1], a[2], a[3]),
                Range.BOUND, Range.BOUND, Range.ABOVE, Range.BELOW),
        new Face("mean", (t, a) -> t.mean(a[0], a[1], a[2]), Range.SHIP, Range.KIND, Range.PART),
        new Face("weight", (t, a) -> t.weight(a[0], a[1], a[2]), Range.SHIP, Range.KIND, Range.PART),
        new Face("joined", (t, a) -> t.joined(a[0], a[1]), Range.KIND, Range.PART),
        new Face("reader", (t, a) -> t.reader(a[0], a[1], a[2]), Range.HAUL, Range.READER, Range.READING),
        new Face("unlike", (t, a) -> t.unlike(a[0]), Range.FROM),
        new Face("price", (t, a) -> { t.price(a[0], a[1]); return "done"; }, Range.KIND, Range.CENTS),
        new Face("lost", (t, a) -> t.lost()),
    };

    private final Checks checks = new Checks("RefusalsTest");
    private int hauls;
    private int pairs;
    private List<String> dueLook;

    public static void main(String[] args) {
        RefusalsTest test = new RefusalsTest();
        for (int hauls : new int[] {0, 1, 2, 7, 31, 32}) {
            test.allOf(hauls);
        }
        test.checks.end();
    }

    private void allOf(int hauls) {
        this.hauls = hauls;
        DeviceTrials untouched = made();
        pairs = untouched.pairs();
        dueLook = look(untouched);
        for (Face face : FACES) {
            checks.of(face.name + " with " + hauls + " hauls");
            allArguments(face, new int[face.ranges.length], 0);
        }
    }

    private void allArguments(Face face, int[] arguments, int place) {
        if (place == arguments.length) {
            one(face, arguments.clone());
            return;
        }
        Range range = face.ranges[place];
        int most = range.most(hauls, pairs);
        int[] values = {Integer.MIN_VALUE, range.least - 1, range.least, most, most + 1, Integer.MAX_VALUE};
        for (int value : values) {
            arguments[place] = value;
            allArguments(face, arguments, place + 1);
        }
    }

    private void one(Face face, int[] arguments) {
        DeviceTrials t = made();
        String told = face.name + java.util.Arrays.toString(arguments);
        String want = refusal(face, arguments);
        String got = Checks.outcome(() -> face.ask.of(t, arguments));
        checks.due(told, want.isEmpty() ? "an answer" : want,
                () -> got.startsWith("throws.") ? got : "an answer");
        if (!want.isEmpty()) {
            checks.due(told + " changed something", "", () -> firstOther(look(t)));
        }
    }

    /** The exception that is due, the one named first of several; empty if none is. */
    private String refusal(Face face, int[] arguments) {
        if (isAnyOutside(face, arguments, Checks.INDEX)) {
            return Checks.INDEX;
        }
        boolean aboveIsMore = face.name.equals("least") && arguments[2] > arguments[3];
        if (isAnyOutside(face, arguments, Checks.ARGUMENT) || aboveIsMore) {
            return Checks.ARGUMENT;
        }
        return face.name.equals("haul") && hauls == 32 ? Checks.STATE : "";
    }

    private boolean isAnyOutside(Face face, int[] arguments, String exception) {
        for (int i = 0; i < arguments.length; i++) {
            Range range = face.ranges[i];
            boolean isOutside = arguments[i] < range.least || arguments[i] > range.most(hauls, pairs);
            if (isOutside && range.otherwise.equals(exception)) {
                return true;
            }
        }
        return false;
    }

    private static int countOf(int haul, int kind) {
        return kind == haul % 3 ? 0 : (haul * 37 + kind * 11) % 50;
    }

    /** The same object each time, with something in every row that a refused call could spoil. */
    private DeviceTrials made() {
        DeviceTrials t = new DeviceTrials(-77);
        for (int haul = 0; haul < hauls; haul++) {
            t.haul(haul < 9 ? haul * haul % 4 : haul % 3);
            for (int kind = 0; kind < 3; kind++) {
                if (countOf(haul, kind) != 0) {
                    t.caught(haul, kind, countOf(haul, kind));
                }
            }
            t.reader(haul, 0, 10);
            if (haul != 5) {
                t.reader(haul, 1, haul % 2 == 0 ? 9 : 20);
            }
        }
        t.out(2, true);
        t.price(0, 3);
        t.price(1, 1009);
        t.price(2, 100000);
        return t;
    }

    /** All that later calls tell of the object, hauls to come as well; with made() below 512 calls. */
    private List<String> look(DeviceTrials t) {
        List<String> seen = new ArrayList<>();
        seen.add("lost " + t.lost());
        for (int kind = 0; kind < 3; kind++) {
            int k = kind;
            seen.add("kept " + t.kept(k) + ", sum " + t.sum(k) + ", stopped " + t.stopped(k, 2, 3));
            seen.add("odds " + t.odds(k, 0) + " / " + t.odds(k, 1));
            seen.add("rankOdds " + t.rankOdds(k, 0) + " / " + t.rankOdds(k, 1));
            seen.add("joined " + t.joined(k, 0) + " / " + t.joined(k, 1));
        }
        for (int ship = 0; ship < 4; ship++) {
            seen.add("mean " + t.mean(ship, 1, 0) + " / " + t.mean(ship, 1, 1));
            seen.add("weight " + t.weight(ship, 1, 0) + " / " + t.weight(ship, 1, 1));
            seen.add("out " + t.out(ship, ship == 2));
        }
        for (int haul = 0; haul < hauls; haul++) {
            seen.add("unlike " + t.unlike(haul));
            for (int kind = 0; kind < 3; kind++) {
                seen.add("caught " + t.caught(haul, kind, countOf(haul, kind)));
            }
        }
        for (int haul = hauls; haul < 32; haul++) {
            seen.add("haul " + t.haul(haul % 4));
        }
        for (int haul = 0; haul < 32; haul++) {
            seen.add("arm " + t.arm(haul));
        }
        seen.add("pairs " + t.pairs());
        seen.add("crossing " + t.crossing(9, 2, 3, 0) + ", least " + t.least(2, 3, 1, 2));
        return seen;
    }

    private String firstOther(List<String> seen) {
        for (int i = 0; i < dueLook.size(); i++) {
            if (!seen.get(i).equals(dueLook.get(i))) {
                return seen.get(i) + " in place of " + dueLook.get(i);
            }
        }
        return "";
    }
}
