import java.util.Random;

/** Drawn runs of calls, from fixed seeds, each answer held against the model's. */
public final class ModelTest {
    private static final int RUNS = 5000;
    // The document promises 512 calls on one object and nothing behind them.
    private static final int CALLS = 512;
    private static final int CALLS_THAT_BUILD = 300;
    private static final String[] NAMES = {
        "batch", "batch", "parts", "parts", "parts", "parts", "parts", "today", "stage", "stage", "run", "run",
        "taken", "left", "grams", "stock", "price", "price", "worth", "sell", "money",
        "assay", "assay", "assay", "assay", "assay", "assay", "assay", "assay", "settled", "disputed",
        "tolerance", "rule", "rule", "cls", "cls", "mix", "mix", "dispute"
    };
    private static final String[] ASKS = {
        "taken", "taken", "taken", "left", "left", "grams", "stock", "stock", "worth", "money", "settled", "disputed",
        "cls", "dispute"
    };
    private static final long[] PARTS = {0, 1, 7, 49, 50, 51, 52, 99, 100, 101, 333333, 999949, 999999, 1000000};

    private final Due due = new Due();
    private Random random;
    private AshMetals real;
    private Model model;

    public static void main(String[] args) {
        ModelTest test = new ModelTest();
        for (int seed = 0; seed < RUNS && test.due.wrongSoFar() < 20; seed++) {
            test.drawnRun(seed);
        }
        test.due.end();
    }

    private void drawnRun(int seed) {
        random = new Random(seed);
        real = new AshMetals();
        model = new Model();
        for (int i = 0; i < CALLS; i++) {
            String[] names = i < CALLS_THAT_BUILD ? NAMES : ASKS;
            String name = names[random.nextInt(names.length)];
            compare(seed, new Call(name, argumentsFor(name)));
        }
    }

    private void compare(int seed, Call call) {
        due.is("seed " + seed + ": " + call, call.on(real), model.call(call.name, call.arguments));
    }

    private long[] argumentsFor(String name) {
        switch (name) {
            case "batch": return of(grams());
            case "parts": return of(up(8), up(4), parts());
            case "today": return of(day());
            case "stage": return of(up(4), thousandths(), thousandths());
            case "run": case "grams": case "cls": case "dispute": return of(up(8));
            case "taken": return of(up(8), up(6), up(4));
            case "left": case "settled": case "disputed": return of(up(8), up(4));
            case "stock": return of(up(6), up(4));
            case "price": return of(up(4), day(), parts());
            case "worth": return of(up(8), day());
            case "sell": return of(up(6));
            case "money": return of();
            case "assay": return of(up(8), up(3), assayedMetal(), assayedParts());
            case "tolerance": return of(random.nextInt(3) == 0 ? parts() : 48 + random.nextInt(5));
            case "rule": return of(up(10), up(4), parts(), random.nextInt(2) == 0 ? 0 : day());
            case "mix": return of(up(8), up(8));
            default: throw new IllegalArgumentException(name);
        }
    }

    private static long[] of(long... a) {
        return a;
    }

    /** Mostly 0 .. most - 1, now and then beyond it. */
    private long up(int most) {
        return random.nextInt(40) == 0 ? far() : random.nextInt(30) == 0 ? most : random.nextInt(most);
    }

    private long far() {
        long[] all = {-1, Integer.MIN_VALUE, Integer.MAX_VALUE, -2, 1000};
        return all[random.nextInt(all.length)];
    }

    private long grams() {
        long[] all = {0, 1, 3, 7, 1000, 999999, 1000000, 1000000000, 1000000001, -1, Long.MIN_VALUE, Long.MAX_VALUE, 1L << 32};
        return random.nextInt(2) == 0 ? all[random.nextInt(all.length)] : 1 + random.nextInt(1000000000);
    }

    private long parts() {
        if (random.nextInt(20) == 0) {
            return random.nextInt(2) == 0 ? 1000001 : far();
        }
        return random.nextInt(2) == 0 ? PARTS[random.nextInt(PARTS.length)] : random.nextInt(1000001);
    }

    /** Few metals, so that often all three labs tell of the same one. */
    private long assayedMetal() {
        return random.nextInt(4) == 0 ? up(4) : random.nextInt(2);
    }

    /** Mostly about the first tolerance apart. */
    private long assayedParts() {
        long[] all = {100, 101, 125, 149, 150, 151, 152};
        return random.nextInt(5) == 0 ? parts() : all[random.nextInt(all.length)];
    }

    private long day() {
        if (random.nextInt(20) == 0) {
            return random.nextInt(2) == 0 ? 100000 + random.nextInt(2) : far();
        }
        return random.nextInt(random.nextInt(3) == 0 ? 200 : 20);
    }

    private long thousandths() {
        long[] all = {0, 1, 7, 333, 500, 999, 1000, 1001, -1};
        return random.nextInt(2) == 0 ? all[random.nextInt(all.length)] : random.nextInt(1001);
    }
}
