import java.util.Arrays;

/**
 * Metals in ash: batches, stages, stocks, prices, assays, rules and mixes.
 * Every call answers by itself; none throws.
 */
public final class AshMetals {
    public static final int NONE = -1;

    private static final int METALS = 4;
    private static final int LABS = 3;
    private static final int MOST_BATCHES = 8;
    private static final int MOST_STAGES = 6;
    private static final int MOST_RULES = 8;
    private static final int MOST_PRICES = 6;
    private static final long MOST_GRAMS = 1000000000L;
    private static final long MOST_CENTS = 1000000L;
    private static final int LAST_DAY = 100000;
    private static final int LAST_CLASS = 9;
    private static final int NO_CLASS = 99;
    private static final int FIRST_TOLERANCE = 50;
    private static final int THOUSAND = 1000;
    private static final int MILLION = 1000000;

    private final Batch[] batches;
    private int batchCount;
    private final Stage[] stages;
    private int stageCount;
    private final Rule[] rules;
    private int ruleCount;
    private final PriceTable prices;
    private int currentDay;
    private int mostSpread;
    private long income;

    public AshMetals() {
        batches = new Batch[MOST_BATCHES];
        stages = new Stage[MOST_STAGES];
        rules = new Rule[MOST_RULES];
        prices = new PriceTable();
        mostSpread = FIRST_TOLERANCE;
    }

    public int batch(long grams) {
        if (!isWithin(grams, 1, MOST_GRAMS) || batchCount >= MOST_BATCHES) {
            return NONE;
        }
        return keepBatch(new Batch(grams, currentDay, false));
    }

    public boolean parts(int batch, int metal, int parts) {
        Batch b = batchAt(batch);
        if (b == null || b.gone || b.wasRun || b.mixed) {
            return false;
        }
        if (!isMetal(metal) || !isWithin(parts, 0, MILLION)) {
            return false;
        }
        b.amounts[metal] = b.weight * parts;
        return true;
    }

    public boolean today(int day) {
        if (!isWithin(day, currentDay, LAST_DAY)) {
            return false;
        }
        currentDay = day;
        return true;
    }

    public int stage(int metal, int thousandths, int drags) {
        if (!isMetal(metal) || stageCount >= MOST_STAGES) {
            return NONE;
        }
        if (!isWithin(thousandths, 0, THOUSAND) || !isWithin(drags, 0, THOUSAND)) {
            return NONE;
        }
        stages[stageCount] = new Stage(metal, thousandths, drags);
        stageCount++;
        return stageCount - 1;
    }

    public int run(int batch) {
        Batch b = batchAt(batch);
        if (b == null || b.gone || b.wasRun) {
            return NONE;
        }
        for (int i = 0; i < stageCount; i++) {
            passThrough(b, i);
        }
        b.wasRun = true;
        b.stagesPassed = stageCount;
        return stageCount;
    }

    public long taken(int batch, int stage, int metal) {
        Batch b = batchAt(batch);
        if (b == null || !isMetal(metal)) {
            return NONE;
        }
        // stagesPassed stays 0 for a batch that was not run by itself, so this refuses it too.
        if (stage < 0 || stage >= b.stagesPassed || stage >= MOST_STAGES) {
            return NONE;
        }
        return b.takings[stage * METALS + metal];
    }

    public long left(int batch, int metal) {
        Batch b = batchAt(batch);
        if (b == null || !isMetal(metal)) {
            return NONE;
        }
        return b.amounts[metal];
    }

    public long grams(int batch) {
        Batch b = batchAt(batch);
        return b == null ? NONE : b.weight;
    }

    public long stock(int stage, int metal) {
        Stage s = stageAt(stage);
        if (s == null || !isMetal(metal)) {
            return NONE;
        }
        return s.store[metal];
    }

    public boolean price(int metal, int day, long cents) {
        if (!isMetal(metal) || !isWithin(day, 0, LAST_DAY) || !isWithin(cents, 0, MOST_CENTS)) {
            return false;
        }
        return prices.append(metal, day, cents);
    }

    public long worth(int batch, int day) {
        Batch b = batchAt(batch);
        if (b == null || day < 0) {
            return NONE;
        }
        return prices.centsFor(b.amounts, day);
    }

    public long sell(int stage) {
        Stage s = stageAt(stage);
        if (s == null) {
            return NONE;
        }
        long cents = prices.centsFor(s.store, currentDay);
        Arrays.fill(s.store, 0L);
        income += cents;
        return cents;
    }

    public long money() {
        return income;
    }

    public boolean assay(int batch, int lab, int metal, int parts) {
        Batch b = batchAt(batch);
        if (b == null || b.gone || !isMetal(metal)) {
            return false;
        }
        if (!isWithin(lab, 0, LABS - 1) || !isWithin(parts, 0, MILLION)) {
            return false;
        }
        b.told[metal * LABS + lab] = parts;
        return true;
    }

    public int settled(int batch, int metal) {
        Batch b = batchAt(batch);
        if (b == null || !isMetal(metal)) {
            return NONE;
        }
        return b.middleOf(metal);
    }

    public boolean disputed(int batch, int metal) {
        Batch b = batchAt(batch);
        return b != null && isMetal(metal) && b.spreadOf(metal) > mostSpread;
    }

    public boolean tolerance(int parts) {
        if (!isWithin(parts, 0, MILLION)) {
            return false;
        }
        mostSpread = parts;
        return true;
    }

    public int rule(int cls, int metal, int limit, int age) {
        if (!isWithin(cls, 0, LAST_CLASS) || !isMetal(metal) || ruleCount >= MOST_RULES) {
            return NONE;
        }
        if (!isWithin(limit, 0, MILLION) || !isWithin(age, 0, LAST_DAY)) {
            return NONE;
        }
        rules[ruleCount] = new Rule(cls, metal, limit, age);
        ruleCount++;
        return ruleCount - 1;
    }

    public int cls(int batch) {
        Batch b = batchAt(batch);
        if (b == null || b.gone) {
            return NONE;
        }
        for (int i = 0; i < ruleCount; i++) {
            Rule r = rules[i];
            if (r != null && r.fits(b, currentDay, mostSpread)) {
                return r.givenClass;
            }
        }
        return NO_CLASS;
    }

    public int mix(int a, int b) {
        Batch first = batchAt(a);
        Batch second = batchAt(b);
        if (first == null || second == null || a == b || batchCount >= MOST_BATCHES) {
            return NONE;
        }
        if (first.gone || second.gone || first.wasRun != second.wasRun) {
            return NONE;
        }
        first.gone = true;
        second.gone = true;
        return keepBatch(mixtureOf(first, second));
    }

    public int dispute(int k) {
        int before = 0;
        for (int i = 0; i < batchCount; i++) {
            Batch b = batches[i];
            if (b != null && !b.gone && b.hasSpreadAbove(mostSpread)) {
                if (before == k) {
                    return i;
                }
                before++;
            }
        }
        return NONE;
    }

    private static boolean isWithin(long value, long least, long most) {
        return value >= least && value <= most;
    }

    private static boolean isMetal(int metal) {
        return metal >= 0 && metal < METALS;
    }

    private Batch batchAt(int number) {
        return number >= 0 && number < batchCount ? batches[number] : null;
    }

    private Stage stageAt(int number) {
        return number >= 0 && number < stageCount ? stages[number] : null;
    }

    private int keepBatch(Batch made) {
        if (batchCount >= MOST_BATCHES) {
            return NONE;
        }
        batches[batchCount] = made;
        batchCount++;
        return batchCount - 1;
    }

    private void passThrough(Batch b, int number) {
        Stage s = stageAt(number);
        if (s == null) {
            return;
        }
        long together = 0;
        for (int metal = 0; metal < METALS; metal++) {
            // Eight batches in all let at most four be mixed into one: 4e15 times 1000 fits a long.
            long part = b.amounts[metal] * s.thousandthsOf(metal) / THOUSAND;
            b.amounts[metal] -= part;
            b.takings[number * METALS + metal] = part;
            s.store[metal] += part;
            together += part;
        }
        // Parts of all metals may come to more than a million, so more than the weight can go.
        b.weight = Math.max(0L, b.weight - together / MILLION);
    }

    private static Batch mixtureOf(Batch first, Batch second) {
        Batch mixture = new Batch(first.weight + second.weight, Math.max(first.day, second.day), true);
        for (int metal = 0; metal < METALS; metal++) {
            mixture.amounts[metal] = first.amounts[metal] + second.amounts[metal];
        }
        mixture.wasRun = first.wasRun && second.wasRun;
        return mixture;
    }

    private static final class Batch {
        final int day;
        final boolean mixed;
        final long[] amounts;
        final long[] takings;
        final int[] told;
        long weight;
        boolean wasRun;
        boolean gone;
        int stagesPassed;

        Batch(long weight, int day, boolean mixed) {
            this.weight = weight;
            this.day = day;
            this.mixed = mixed;
            amounts = new long[METALS];
            takings = new long[MOST_STAGES * METALS];
            told = new int[METALS * LABS];
            Arrays.fill(told, NONE);
        }

        /** The middle of what the three labs told of a metal; NONE when not all have. */
        int middleOf(int metal) {
            if (!allTold(metal)) {
                return NONE;
            }
            int a = told[metal * LABS];
            int b = told[metal * LABS + 1];
            int c = told[metal * LABS + 2];
            return Math.max(Math.min(a, b), Math.min(Math.max(a, b), c));
        }

        /** How far the greatest told is above the least; NONE, below every tolerance, when not all have. */
        int spreadOf(int metal) {
            if (!allTold(metal)) {
                return NONE;
            }
            int a = told[metal * LABS];
            int b = told[metal * LABS + 1];
            int c = told[metal * LABS + 2];
            return Math.max(Math.max(a, b), c) - Math.min(Math.min(a, b), c);
        }

        boolean hasSpreadAbove(int most) {
            for (int metal = 0; metal < METALS; metal++) {
                if (spreadOf(metal) > most) {
                    return true;
                }
            }
            return false;
        }

        private boolean allTold(int metal) {
            if (!isMetal(metal)) {
                return false;
            }
            for (int lab = 0; lab < LABS; lab++) {
                if (told[metal * LABS + lab] == NONE) {
                    return false;
                }
            }
            return true;
        }
    }

    private static final class Stage {
        final int own;
        final int ownThousandths;
        final int otherThousandths;
        final long[] store;

        Stage(int own, int ownThousandths, int otherThousandths) {
            this.own = own;
            this.ownThousandths = ownThousandths;
            this.otherThousandths = otherThousandths;
            store = new long[METALS];
        }

        int thousandthsOf(int metal) {
            return metal == own ? ownThousandths : otherThousandths;
        }
    }

    private static final class Rule {
        final int givenClass;
        final int metal;
        final int limit;
        final int leastAge;

        Rule(int givenClass, int metal, int limit, int leastAge) {
            this.givenClass = givenClass;
            this.metal = metal;
            this.limit = limit;
            this.leastAge = leastAge;
        }

        boolean fits(Batch b, int currentDay, int mostSpread) {
            int middle = b.middleOf(metal);
            return middle != NONE
                && middle <= limit
                && b.spreadOf(metal) <= mostSpread
                && leastAge <= currentDay - b.day;
        }
    }

    /** The prices of all metals, each metal's by rising days. */
    private static final class PriceTable {
        final int[] counts;
        final int[] days;
        final long[] cents;

        PriceTable() {
            counts = new int[METALS];
            days = new int[METALS * MOST_PRICES];
            cents = new long[METALS * MOST_PRICES];
        }

        boolean append(int metal, int day, long price) {
            int count = countOf(metal);
            if (!isMetal(metal) || count >= MOST_PRICES) {
                return false;
            }
            int next = metal * MOST_PRICES + count;
            if (count > 0 && day <= days[next - 1]) {
                return false;
            }
            days[next] = day;
            cents[next] = price;
            counts[metal] = count + 1;
            return true;
        }

        /** What amounts in millionths of a gram come to on a day, in whole cents. */
        long centsFor(long[] amounts, int day) {
            long whole = 0;
            long millionths = 0;
            for (int metal = 0; metal < METALS && metal < amounts.length; metal++) {
                // An amount times a price may pass a long: whole grams and the rest go apart.
                long price = centsOn(metal, day);
                whole += amounts[metal] / MILLION * price;
                millionths += amounts[metal] % MILLION * price;
            }
            return whole + millionths / MILLION;
        }

        private long centsOn(int metal, int day) {
            long latest = 0;
            int count = countOf(metal);
            for (int i = 0; i < count; i++) {
                int at = metal * MOST_PRICES + i;
                if (days[at] <= day) {
                    latest = cents[at];
                }
            }
            return latest;
        }

        private int countOf(int metal) {
            return isMetal(metal) ? counts[metal] : 0;
        }
    }
}
