import java.util.Random;

/** Runs of 512 calls, right and wrong ones mixed, on DeviceTrials and on the Model side by side. */
public final class ModelTest {
    private static final int RUNS = 200;
    private static final int CALLS = 512;
    private static final int[] FAR = {Integer.MIN_VALUE, Integer.MAX_VALUE, -1, -2, 1 << 30};

    private final Checks checks = new Checks("ModelTest");
    private Random random;
    private DeviceTrials trials;
    private Model model;
    private int hauls;
    private int mostCaught;
    private int shipsUsed;
    private int calls;

    public static void main(String[] args) {
        ModelTest test = new ModelTest();
        for (int run = 0; run < RUNS; run++) {
            test.run(run);
        }
        test.checks.end();
    }

    private void run(int run) {
        // A seed written out keeps a failing run the same from one day to the next.
        random = new Random(1000003L * run + 17);
        int seed = run == 0 ? Integer.MIN_VALUE : run == 1 ? Integer.MAX_VALUE : run == 2 ? 0 : random.nextInt();
        trials = new DeviceTrials(seed);
        model = new Model(seed);
        hauls = 0;
        mostCaught = new int[] {1, 3, 20, 1000}[run % 4];
        shipsUsed = 1 + run / 4 % 4;
        calls = 0;
        while (calls < CALLS) {
            one("run " + run + ", call " + calls + ": ");
        }
    }

    /** A number of a range, its ends often, and now and then one just or far beside it. */
    private int some(int least, int most) {
        switch (random.nextInt(24)) {
            case 0: return least - 1;
            case 1: return most + 1;
            case 2: return FAR[random.nextInt(FAR.length)];
            case 3: return least;
            case 4: return most;
            default: return most < least ? least : least + random.nextInt(most - least + 1);
        }
    }

    /** What an object answers behind its 512th call is free, so it is not asked then. */
    private void both(String what, Checks.Call mine, Checks.Call due) {
        if (calls < CALLS) {
            calls++;
            checks.due(what, Checks.outcome(due), mine);
        }
    }

    private void one(String at) {
        int what = random.nextInt(calls > CALLS / 2 ? 40 : 24);
        if (what < 6) {
            addHaul(at);
        } else if (what < 16) {
            putCount(at);
        } else if (what < 20) {
            change(at);
        } else if (what < 22) {
            askPair(at);
        } else if (what < 36) {
            askKind(at);
        } else {
            askWalk(at);
        }
    }

    private void addHaul(String at) {
        int ship = some(0, shipsUsed - 1);
        both(at + "haul(" + ship + ")", () -> trials.haul(ship), () -> model.haul(ship));
        hauls = ship >= 0 && ship < 4 && hauls < 32 ? hauls + 1 : hauls;
        both(at + "pairs()", () -> trials.pairs(), () -> model.pairs());
    }

    private void putCount(String at) {
        int haul = some(0, hauls - 1);
        int kind = some(0, 2);
        int n = random.nextInt(40) == 0 ? some(0, 1000) : random.nextInt(mostCaught + 1);
        both(at + "caught(" + haul + ", " + kind + ", " + n + ")",
                () -> trials.caught(haul, kind, n), () -> model.caught(haul, kind, n));
    }

    private void change(String at) {
        int ship = some(0, 3);
        boolean on = random.nextInt(4) == 0;
        int haul = some(0, hauls - 1);
        int reader = some(0, 1);
        int n = random.nextBoolean() ? some(0, 100000) : random.nextInt(30);
        int kind = some(0, 2);
        int cents = some(0, 100000);
        int from = some(0, hauls);
        switch (random.nextInt(4)) {
            case 0 -> both(at + "out(" + ship + ", " + on + ")",
                    () -> trials.out(ship, on), () -> model.out(ship, on));
            case 1 -> both(at + "price(" + kind + ", " + cents + ")",
                    () -> { trials.price(kind, cents); return "done"; },
                    () -> { model.price(kind, cents); return "done"; });
            case 2 -> both(at + "reader(" + haul + ", " + reader + ", " + n + ")",
                    () -> trials.reader(haul, reader, n), () -> model.reader(haul, reader, n));
            default -> both(at + "unlike(" + from + ")", () -> trials.unlike(from), () -> model.unlike(from));
        }
    }

    private void askPair(String at) {
        int haul = some(0, hauls - 1);
        int pair = some(0, model.pairs() - 1);
        int kind = some(0, 2);
        int what = some(0, 2);
        both(at + "arm(" + haul + ")", () -> trials.arm(haul), () -> model.arm(haul));
        both(at + "pair(" + pair + ", " + what + ")", () -> trials.pair(pair, what), () -> model.pair(pair, what));
        both(at + "difference(" + pair + ", " + kind + ")",
                () -> trials.difference(pair, kind), () -> model.difference(pair, kind));
        both(at + "rank(" + pair + ", " + kind + ")", () -> trials.rank(pair, kind), () -> model.rank(pair, kind));
    }

    private void askKind(String at) {
        int ship = some(0, 3);
        int kind = some(0, 2);
        int part = some(0, 1);
        int upper = some(1, random.nextBoolean() ? 3 : 16);
        int lower = some(1, random.nextBoolean() ? 3 : 16);
        String of = "(" + kind + ", " + part + ")";
        switch (random.nextInt(9)) {
            case 0 -> both(at + "kept(" + kind + ")", () -> trials.kept(kind), () -> model.kept(kind));
            case 1 -> both(at + "sum(" + kind + ")", () -> trials.sum(kind), () -> model.sum(kind));
            case 2 -> both(at + "odds" + of, () -> trials.odds(kind, part), () -> model.odds(kind, part));
            case 3 -> both(at + "rankOdds" + of, () -> trials.rankOdds(kind, part), () -> model.rankOdds(kind, part));
            case 4 -> both(at + "joined" + of, () -> trials.joined(kind, part), () -> model.joined(kind, part));
            case 5 -> both(at + "mean(" + ship + ", " + kind + ", " + part + ")",
                    () -> trials.mean(ship, kind, part), () -> model.mean(ship, kind, part));
            case 6 -> both(at + "weight(" + ship + ", " + kind + ", " + part + ")",
                    () -> trials.weight(ship, kind, part), () -> model.weight(ship, kind, part));
            case 7 -> both(at + "stopped(" + kind + ", " + upper + ", " + lower + ")",
                    () -> trials.stopped(kind, upper, lower), () -> model.stopped(kind, upper, lower));
            default -> both(at + "lost()", () -> trials.lost(), () -> model.lost());
        }
    }

    private void askWalk(String at) {
        int n = some(0, 40);
        int upper = some(1, random.nextBoolean() ? 4 : 16);
        int lower = some(1, random.nextBoolean() ? 4 : 16);
        int part = some(0, 1);
        int below = some(1, 1000);
        int above = some(0, Math.max(0, Math.min(below, 1000)));
        both(at + "crossing(" + n + ", " + upper + ", " + lower + ", " + part + ")",
                () -> trials.crossing(n, upper, lower, part), () -> model.crossing(n, upper, lower, part));
        both(at + "least(" + upper + ", " + lower + ", " + above + ", " + below + ")",
                () -> trials.least(upper, lower, above, below), () -> model.least(upper, lower, above, below));
    }
}
