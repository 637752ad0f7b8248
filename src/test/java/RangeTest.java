import java.util.function.IntPredicate;
import java.util.function.LongPredicate;

/**
 * Every argument of every call: the least and the greatest value that is taken, the values just outside,
 * and those far outside. Each value is tried on an object of its own.
 */
public final class RangeTest {
    private static final int LAST_METAL = 3;
    private static final int LAST_LAB = 2;
    private static final int LAST_DAY = 100000;
    private static final int MILLION = 1000000;
    // How many batches and stages the objects have on which numbers of them are tried.
    private static final int BATCHES = 3;
    private static final int STAGES = 2;

    private final Due due = new Due();

    public static void main(String[] args) {
        RangeTest test = new RangeTest();
        test.due.runAll(test);
    }

    private void promise2BatchGrams() {
        longs("batch: grams", 1, 1000000000L, grams -> new AshMetals().batch(grams) == 0);
    }

    private void promise3PartsBatch() {
        ints("parts: batch", 0, BATCHES - 1, batch -> made().parts(batch, 0, 1));
    }

    private void promise3PartsMetal() {
        ints("parts: metal", 0, LAST_METAL, metal -> made().parts(0, metal, 1));
    }

    private void promise3PartsParts() {
        ints("parts: parts", 0, MILLION, parts -> made().parts(0, 0, parts));
    }

    private void promise4TodayOnANewObject() {
        ints("today: day", 0, LAST_DAY, day -> new AshMetals().today(day));
    }

    private void promise4TodayIsNotBeforeToday() {
        ints("today: day, today being 40", 40, LAST_DAY, day -> onDay(40).today(day));
    }

    private void promise4TodayOnTheLastDay() {
        ints("today: day, today being the last", LAST_DAY, LAST_DAY, day -> onDay(LAST_DAY).today(day));
    }

    private void promise5StageMetal() {
        ints("stage: metal", 0, LAST_METAL, metal -> new AshMetals().stage(metal, 1, 1) == 0);
    }

    private void promise5StageThousandths() {
        ints("stage: thousandths", 0, 1000, thousandths -> new AshMetals().stage(0, thousandths, 1) == 0);
    }

    private void promise5StageDrags() {
        ints("stage: drags", 0, 1000, drags -> new AshMetals().stage(0, 1, drags) == 0);
    }

    private void promise6RunBatch() {
        ints("run: batch", 0, BATCHES - 1, batch -> made().run(batch) == STAGES);
    }

    private void promise7TakenBatch() {
        ints("taken: batch", 0, BATCHES - 1, batch -> allRun().taken(batch, 0, 0) != -1);
    }

    private void promise7TakenStage() {
        ints("taken: stage", 0, STAGES - 1, stage -> allRun().taken(0, stage, 0) != -1);
    }

    private void promise7TakenMetal() {
        ints("taken: metal", 0, LAST_METAL, metal -> allRun().taken(1, 1, metal) != -1);
    }

    private void promise8LeftBatch() {
        ints("left: batch", 0, BATCHES - 1, batch -> made().left(batch, 0) != -1);
    }

    private void promise8LeftMetal() {
        ints("left: metal", 0, LAST_METAL, metal -> made().left(1, metal) != -1);
    }

    private void promise9GramsBatch() {
        ints("grams: batch", 0, BATCHES - 1, batch -> made().grams(batch) != -1);
    }

    private void promise10StockStage() {
        ints("stock: stage", 0, STAGES - 1, stage -> made().stock(stage, 0) != -1);
    }

    private void promise10StockMetal() {
        ints("stock: metal", 0, LAST_METAL, metal -> made().stock(0, metal) != -1);
    }

    private void promise11PriceMetal() {
        ints("price: metal", 0, LAST_METAL, metal -> new AshMetals().price(metal, 1, 1));
    }

    private void promise11PriceDay() {
        ints("price: day", 0, LAST_DAY, day -> new AshMetals().price(0, day, 1));
    }

    private void promise11PriceDayIsLaterThanTheOneBefore() {
        ints("price: day behind a price of day 40", 41, LAST_DAY, day -> {
            AshMetals x = new AshMetals();
            return x.price(0, 40, 1) && x.price(0, day, 1);
        });
    }

    private void promise11PriceCents() {
        longs("price: cents", 0, MILLION, cents -> new AshMetals().price(0, 1, cents));
    }

    private void promise12WorthBatch() {
        ints("worth: batch", 0, BATCHES - 1, batch -> made().worth(batch, 0) != -1);
    }

    private void promise12WorthDayHasNoGreatest() {
        ints("worth: day", 0, Integer.MAX_VALUE, day -> made().worth(0, day) != -1);
        due.yes("worth behind the last day", made().worth(0, LAST_DAY + 1) != -1);
    }

    private void promise13SellStage() {
        ints("sell: stage", 0, STAGES - 1, stage -> made().sell(stage) != -1);
    }

    private void promise15AssayBatch() {
        ints("assay: batch", 0, BATCHES - 1, batch -> made().assay(batch, 0, 0, 1));
    }

    private void promise15AssayLab() {
        ints("assay: lab", 0, LAST_LAB, lab -> made().assay(0, lab, 0, 1));
    }

    private void promise15AssayMetal() {
        ints("assay: metal", 0, LAST_METAL, metal -> made().assay(0, 0, metal, 1));
    }

    private void promise15AssayParts() {
        ints("assay: parts", 0, MILLION, parts -> made().assay(0, 0, 0, parts));
    }

    private void promise16SettledBatch() {
        ints("settled: batch", 0, BATCHES - 1, batch -> allTold().settled(batch, 0) != -1);
    }

    private void promise16SettledMetal() {
        ints("settled: metal", 0, LAST_METAL, metal -> allTold().settled(1, metal) != -1);
    }

    private void promise17DisputedBatch() {
        ints("disputed: batch", 0, BATCHES - 1, batch -> allTold().disputed(batch, 0));
    }

    private void promise17DisputedMetal() {
        ints("disputed: metal", 0, LAST_METAL, metal -> allTold().disputed(1, metal));
    }

    private void promise18ToleranceParts() {
        ints("tolerance: parts", 0, MILLION, parts -> new AshMetals().tolerance(parts));
    }

    private void promise19RuleClass() {
        ints("rule: class", 0, 9, cls -> new AshMetals().rule(cls, 0, 1, 1) == 0);
    }

    private void promise19RuleMetal() {
        ints("rule: metal", 0, LAST_METAL, metal -> new AshMetals().rule(0, metal, 1, 1) == 0);
    }

    private void promise19RuleLimit() {
        ints("rule: limit", 0, MILLION, limit -> new AshMetals().rule(0, 0, limit, 1) == 0);
    }

    private void promise19RuleAge() {
        ints("rule: age", 0, LAST_DAY, age -> new AshMetals().rule(0, 0, 1, age) == 0);
    }

    private void promise20ClsBatch() {
        ints("cls: batch", 0, BATCHES - 1, batch -> made().cls(batch) != -1);
    }

    private void promise21MixFirst() {
        ints("mix: first", 0, BATCHES - 2, first -> made().mix(first, BATCHES - 1) == BATCHES);
    }

    private void promise21MixSecond() {
        ints("mix: second", 1, BATCHES - 1, second -> made().mix(0, second) == BATCHES);
    }

    private void promise22DisputeK() {
        ints("dispute: k", 0, BATCHES - 1, k -> allTold().dispute(k) != -1);
    }

    private void ints(String what, int least, int most, IntPredicate taken) {
        due.yes(what + " " + least, taken.test(least));
        due.yes(what + " " + most, taken.test(most));
        if (least > Integer.MIN_VALUE) {
            due.no(what + " " + (least - 1), taken.test(least - 1));
            due.no(what + " " + Integer.MIN_VALUE, taken.test(Integer.MIN_VALUE));
        }
        if (most < Integer.MAX_VALUE) {
            due.no(what + " " + (most + 1), taken.test(most + 1));
            due.no(what + " " + Integer.MAX_VALUE, taken.test(Integer.MAX_VALUE));
        }
    }

    private void longs(String what, long least, long most, LongPredicate taken) {
        due.yes(what + " " + least, taken.test(least));
        due.yes(what + " " + most, taken.test(most));
        // Cut to an int, the values about 2 to the 32nd would lie within.
        long wrap = 1L << 32;
        long[] outside = {least - 1, most + 1, wrap + least, wrap + most, least - wrap, Long.MIN_VALUE, Long.MAX_VALUE};
        for (long value : outside) {
            due.no(what + " " + value, taken.test(value));
        }
    }

    private static AshMetals made() {
        AshMetals x = new AshMetals();
        for (int batch = 0; batch < BATCHES; batch++) {
            x.batch(10);
        }
        for (int stage = 0; stage < STAGES; stage++) {
            x.stage(0, 1, 1);
        }
        return x;
    }

    private static AshMetals allRun() {
        AshMetals x = made();
        for (int batch = 0; batch < BATCHES; batch++) {
            x.run(batch);
        }
        return x;
    }

    /** Of each batch all labs have told each metal, and all is disputed. */
    private static AshMetals allTold() {
        AshMetals x = made();
        for (int batch = 0; batch < BATCHES; batch++) {
            for (int metal = 0; metal <= LAST_METAL; metal++) {
                for (int lab = 0; lab <= LAST_LAB; lab++) {
                    x.assay(batch, lab, metal, 100 * lab);
                }
            }
        }
        return x;
    }

    private static AshMetals onDay(int day) {
        AshMetals x = new AshMetals();
        x.today(day);
        return x;
    }
}
