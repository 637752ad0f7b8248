import java.math.BigInteger;
import java.util.ArrayList;
import java.util.HashMap;
import java.util.List;
import java.util.Map;
import java.util.TreeMap;

/** The document written a second time, as plainly as can be, over numbers without bounds. */
final class Model {
    private static final BigInteger MILLION = BigInteger.valueOf(1000000);
    private static final BigInteger THOUSAND = BigInteger.valueOf(1000);

    private static final class Ash {
        BigInteger grams;
        long day;
        boolean run;
        boolean mixed;
        boolean gone;
        final BigInteger[] amounts = zeros();
        final List<BigInteger[]> takings = new ArrayList<>();
        final Map<String, Long> assays = new HashMap<>();
    }

    private final List<Ash> ashes = new ArrayList<>();
    private final List<long[]> stages = new ArrayList<>();
    private final List<BigInteger[]> stocks = new ArrayList<>();
    private final List<long[]> rules = new ArrayList<>();
    private final List<TreeMap<Long, Long>> prices = new ArrayList<>();
    private BigInteger money = BigInteger.ZERO;
    private long today;
    private long tolerance = 50;

    Model() {
        for (int i = 0; i < 4; i++) {
            prices.add(new TreeMap<>());
        }
    }

    long call(String name, long[] a) {
        switch (name) {
            case "batch": return batch(a[0]);
            case "parts": return parts(a[0], a[1], a[2]);
            case "today": return today(a[0]);
            case "stage": return stage(a[0], a[1], a[2]);
            case "run": return run(a[0]);
            case "taken": return taken(a[0], a[1], a[2]);
            case "left": return ash(a[0]) && metal(a[1]) ? of(a[0]).amounts[(int) a[1]].longValueExact() : -1;
            case "grams": return ash(a[0]) ? of(a[0]).grams.longValueExact() : -1;
            case "stock": return has(a[0], stocks) && metal(a[1]) ? stocks.get((int) a[0])[(int) a[1]].longValueExact() : -1;
            case "price": return price(a[0], a[1], a[2]);
            case "worth": return ash(a[0]) && a[1] >= 0 ? cents(of(a[0]).amounts, a[1]).longValueExact() : -1;
            case "sell": return sell(a[0]);
            case "money": return money.longValueExact();
            case "assay": return assay(a[0], a[1], a[2], a[3]);
            case "settled": return settled(a[0], a[1]);
            case "disputed": return disputed(a[0], a[1]) ? 1 : 0;
            case "tolerance": return tolerance(a[0]);
            case "rule": return rule(a);
            case "cls": return cls(a[0]);
            case "mix": return mix(a[0], a[1]);
            case "dispute": return dispute(a[0]);
            default: throw new IllegalArgumentException(name);
        }
    }

    private long batch(long grams) {
        if (!in(grams, 1, 1000000000) || ashes.size() == 8) {
            return -1;
        }
        Ash ash = new Ash();
        ash.grams = BigInteger.valueOf(grams);
        ash.day = today;
        ashes.add(ash);
        return ashes.size() - 1;
    }

    private long parts(long batch, long metal, long parts) {
        if (!ash(batch) || !metal(metal) || !in(parts, 0, 1000000)) {
            return 0;
        }
        Ash ash = of(batch);
        if (ash.gone || ash.run || ash.mixed) {
            return 0;
        }
        ash.amounts[(int) metal] = ash.grams.multiply(BigInteger.valueOf(parts));
        return 1;
    }

    private long today(long day) {
        if (!in(day, 0, 100000) || day < today) {
            return 0;
        }
        today = day;
        return 1;
    }

    private long stage(long metal, long thousandths, long drags) {
        if (!metal(metal) || !in(thousandths, 0, 1000) || !in(drags, 0, 1000) || stages.size() == 6) {
            return -1;
        }
        stages.add(new long[] {metal, thousandths, drags});
        stocks.add(zeros());
        return stages.size() - 1;
    }

    private long run(long batch) {
        if (!ash(batch) || of(batch).gone || of(batch).run) {
            return -1;
        }
        Ash ash = of(batch);
        ash.run = true;
        for (int s = 0; s < stages.size(); s++) {
            BigInteger[] took = zeros();
            BigInteger all = BigInteger.ZERO;
            for (int m = 0; m < 4; m++) {
                long share = stages.get(s)[0] == m ? stages.get(s)[1] : stages.get(s)[2];
                took[m] = ash.amounts[m].multiply(BigInteger.valueOf(share)).divide(THOUSAND);
                ash.amounts[m] = ash.amounts[m].subtract(took[m]);
                stocks.get(s)[m] = stocks.get(s)[m].add(took[m]);
                all = all.add(took[m]);
            }
            ash.takings.add(took);
            ash.grams = ash.grams.subtract(all.divide(MILLION)).max(BigInteger.ZERO);
        }
        return stages.size();
    }

    private long taken(long batch, long stage, long metal) {
        if (!ash(batch) || !metal(metal) || !has(stage, of(batch).takings)) {
            return -1;
        }
        return of(batch).takings.get((int) stage)[(int) metal].longValueExact();
    }

    private long price(long metal, long day, long cents) {
        if (!metal(metal) || !in(day, 0, 100000) || !in(cents, 0, 1000000)) {
            return 0;
        }
        TreeMap<Long, Long> list = prices.get((int) metal);
        if (list.size() == 6 || !list.isEmpty() && list.lastKey() >= day) {
            return 0;
        }
        list.put(day, cents);
        return 1;
    }

    private BigInteger cents(BigInteger[] amounts, long day) {
        BigInteger all = BigInteger.ZERO;
        for (int m = 0; m < 4; m++) {
            Map.Entry<Long, Long> entry = prices.get(m).floorEntry(day);
            if (entry != null) {
                all = all.add(amounts[m].multiply(BigInteger.valueOf(entry.getValue())));
            }
        }
        return all.divide(MILLION);
    }

    private long sell(long stage) {
        if (!has(stage, stocks)) {
            return -1;
        }
        BigInteger got = cents(stocks.get((int) stage), today);
        stocks.set((int) stage, zeros());
        money = money.add(got);
        return got.longValueExact();
    }

    private long assay(long batch, long lab, long metal, long parts) {
        if (!ash(batch) || of(batch).gone || !in(lab, 0, 2) || !metal(metal) || !in(parts, 0, 1000000)) {
            return 0;
        }
        of(batch).assays.put(metal + "/" + lab, parts);
        return 1;
    }

    private List<Long> told(long batch, long metal) {
        List<Long> all = new ArrayList<>();
        for (int lab = 0; lab < 3; lab++) {
            Long parts = of(batch).assays.get(metal + "/" + lab);
            if (parts != null) {
                all.add(parts);
            }
        }
        all.sort(null);
        return all;
    }

    private long settled(long batch, long metal) {
        if (!ash(batch) || !metal(metal) || told(batch, metal).size() < 3) {
            return -1;
        }
        return told(batch, metal).get(1);
    }

    private boolean disputed(long batch, long metal) {
        if (settled(batch, metal) == -1) {
            return false;
        }
        List<Long> all = told(batch, metal);
        return all.get(2) - all.get(0) > tolerance;
    }

    private long tolerance(long parts) {
        if (!in(parts, 0, 1000000)) {
            return 0;
        }
        tolerance = parts;
        return 1;
    }

    private long rule(long[] a) {
        if (!in(a[0], 0, 9) || !metal(a[1]) || !in(a[2], 0, 1000000) || !in(a[3], 0, 100000) || rules.size() == 8) {
            return -1;
        }
        rules.add(a.clone());
        return rules.size() - 1;
    }

    private long cls(long batch) {
        if (!ash(batch) || of(batch).gone) {
            return -1;
        }
        for (long[] rule : rules) {
            long settled = settled(batch, rule[1]);
            boolean fits = settled >= 0 && !disputed(batch, rule[1]) && settled <= rule[2];
            if (fits && rule[3] <= Math.max(0, today - of(batch).day)) {
                return rule[0];
            }
        }
        return 99;
    }

    private long mix(long a, long b) {
        if (!ash(a) || !ash(b) || a == b || ashes.size() == 8) {
            return -1;
        }
        if (of(a).gone || of(b).gone || of(a).run != of(b).run) {
            return -1;
        }
        Ash ash = new Ash();
        ash.mixed = true;
        ash.run = of(a).run;
        ash.grams = of(a).grams.add(of(b).grams);
        ash.day = Math.max(of(a).day, of(b).day);
        for (int m = 0; m < 4; m++) {
            ash.amounts[m] = of(a).amounts[m].add(of(b).amounts[m]);
        }
        of(a).gone = true;
        of(b).gone = true;
        ashes.add(ash);
        return ashes.size() - 1;
    }

    private long dispute(long k) {
        List<Integer> all = new ArrayList<>();
        for (int i = 0; i < ashes.size(); i++) {
            boolean some = disputed(i, 0) || disputed(i, 1) || disputed(i, 2) || disputed(i, 3);
            if (some && !ashes.get(i).gone) {
                all.add(i);
            }
        }
        return has(k, all) ? all.get((int) k) : -1;
    }

    private Ash of(long batch) {
        return ashes.get((int) batch);
    }

    private boolean ash(long batch) {
        return has(batch, ashes);
    }

    private static boolean metal(long metal) {
        return in(metal, 0, 3);
    }

    private static boolean has(long index, List<?> list) {
        return in(index, 0, list.size() - 1);
    }

    private static boolean in(long value, long least, long most) {
        return value >= least && value <= most;
    }

    private static BigInteger[] zeros() {
        return new BigInteger[] {BigInteger.ZERO, BigInteger.ZERO, BigInteger.ZERO, BigInteger.ZERO};
    }
}
