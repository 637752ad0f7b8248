import java.util.ArrayList;
import java.util.Arrays;
import java.util.List;

/**
 * "A call that is refused changes nothing." Two objects are made alike, one of them gets the refused call
 * more, and both must answer alike from then on: to every question, and to the calls that come afterwards.
 */
public final class RefusedTest {
    private static final int CALLS_OF_AN_OBJECT = 512;
    private static final long[] INTS_FAR_OUT = {Integer.MIN_VALUE, Integer.MAX_VALUE};
    private static final List<Call> QUESTIONS = Scenes.questions();

    private final Due due = new Due();

    public static void main(String[] args) {
        RefusedTest test = new RefusedTest();
        test.due.runAll(test);
    }

    private void scenesHoldWhatTheySayAndLeaveRoomForTheQuestions() {
        for (String[] scene : scenes()) {
            AshMetals x = new AshMetals();
            for (String text : scene) {
                Call call = Call.of(text);
                due.yes(call + " is not refused", call.on(x) != call.refusal());
            }
            int calls = scene.length + 1 + Scenes.AFTERWARDS.length + QUESTIONS.size();
            due.yes(calls + " calls are promised", calls <= CALLS_OF_AN_OBJECT);
        }
    }

    private void promise2Batch() {
        refused(Scenes.NEW, "batch(0)", "batch(1000000001)", "batch(-1)");
        refused(Scenes.BUSY, "batch(0)", "batch(1000000001)", "batch(4294967297)", "batch(" + Long.MIN_VALUE + ")");
        refused(Scenes.FULL, "batch(1)", "batch(1000000000)", "batch(0)");
    }

    private void promise3Parts() {
        refused(Scenes.NEW, "parts(0, 0, 1)");
        refused(Scenes.BUSY, "parts(-1, 0, 1)", "parts(6, 0, 1)", "parts(0, -1, 1)", "parts(0, 4, 1)");
        refused(Scenes.BUSY, "parts(0, 0, -1)", "parts(0, 0, 1000001)", "parts(5, 1, -1)");
    }

    private void promise3PartsOfABatchThatIsGone() {
        refused(Scenes.BUSY, "parts(1, 2, 5)", "parts(2, 2, 5)");
        refused(Scenes.FULL, "parts(0, 0, 0)", "parts(1, 1, 1000000)");
    }

    private void promise3PartsOfABatchThatWasRun() {
        refused(Scenes.BUSY, "parts(4, 0, 5)");
        refused(Scenes.FULL, "parts(2, 0, 5)");
    }

    private void promise3PartsOfAMixedBatch() {
        refused(Scenes.BUSY, "parts(3, 2, 5)");
        refused(Scenes.FULL, "parts(6, 0, 5)");
    }

    private void promise4Today() {
        refused(Scenes.NEW, "today(-1)", "today(100001)");
        refused(Scenes.BUSY, "today(11)", "today(0)", "today(-1)", "today(100001)", "today(2147483647)");
        refused(Scenes.LAST_DAY, "today(99999)", "today(100001)", "today(0)");
    }

    private void promise5Stage() {
        refused(Scenes.BUSY, "stage(-1, 1, 1)", "stage(4, 1, 1)");
        refused(Scenes.BUSY, "stage(0, -1, 1)", "stage(0, 1001, 1)", "stage(0, 1, -1)", "stage(0, 1, 1001)");
        refused(Scenes.FULL, "stage(0, 1, 1)", "stage(3, 1000, 1000)");
    }

    private void promise6Run() {
        refused(Scenes.NEW, "run(0)");
        refused(Scenes.BUSY, "run(-1)", "run(6)", "run(8)");
    }

    private void promise6RunOfABatchThatIsGone() {
        refused(Scenes.BUSY, "run(1)", "run(2)");
        refused(Scenes.FULL, "run(0)", "run(1)");
    }

    private void promise6RunOfABatchThatWasRun() {
        refused(Scenes.BUSY, "run(4)");
        refused(Scenes.FULL, "run(2)");
        refused(with(Scenes.LAST_DAY, "mix(2, 3)"), "run(4)", "run(2)", "run(3)");
    }

    private void promise7Taken() {
        refused(Scenes.BUSY, "taken(-1, 0, 0)", "taken(6, 0, 0)", "taken(4, -1, 0)", "taken(4, 2, 0)");
        refused(Scenes.BUSY, "taken(4, 0, -1)", "taken(4, 0, 4)", "taken(0, 0, 0)", "taken(3, 0, 2)");
    }

    private void promise8Left() {
        refused(Scenes.BUSY, "left(-1, 0)", "left(6, 0)", "left(0, -1)", "left(0, 4)");
    }

    private void promise9Grams() {
        refused(Scenes.BUSY, "grams(-1)", "grams(6)");
    }

    private void promise10Stock() {
        refused(Scenes.BUSY, "stock(-1, 0)", "stock(2, 0)", "stock(0, -1)", "stock(0, 4)");
    }

    private void promise11Price() {
        refused(Scenes.BUSY, "price(-1, 12, 1)", "price(4, 12, 1)", "price(3, -1, 1)", "price(3, 100001, 1)");
        refused(Scenes.BUSY, "price(3, 12, -1)", "price(3, 12, 1000001)", "price(3, 12, 4294967296)");
    }

    private void promise11PriceOfADayThatIsNotLater() {
        refused(Scenes.BUSY, "price(0, 11, 1)", "price(0, 10, 1)", "price(0, 0, 1)", "price(2, 0, 8)");
        refused(Scenes.LAST_DAY, "price(0, 100000, 6)", "price(0, 100001, 6)", "price(0, 99999, 6)");
    }

    private void promise11PriceOfAMetalThatHasSix() {
        refused(Scenes.FULL, "price(0, 22, 1)", "price(1, 100000, 1)", "price(2, 6, 1)", "price(3, 6, 1)");
    }

    private void promise12Worth() {
        refused(Scenes.BUSY, "worth(-1, 12)", "worth(6, 12)", "worth(0, -1)", "worth(0, -2147483648)");
    }

    private void promise13Sell() {
        refused(Scenes.NEW, "sell(0)");
        refused(Scenes.BUSY, "sell(-1)", "sell(2)", "sell(6)");
        refused(Scenes.FULL, "sell(6)", "sell(-1)");
    }

    private void promise15Assay() {
        refused(Scenes.BUSY, "assay(-1, 0, 0, 1)", "assay(6, 0, 0, 1)", "assay(0, -1, 0, 1)", "assay(0, 3, 0, 1)");
        refused(Scenes.BUSY, "assay(0, 0, -1, 1)", "assay(0, 0, 4, 1)", "assay(0, 0, 0, -1)", "assay(0, 0, 0, 1000001)");
        refused(Scenes.BUSY, "assay(0, 2, 2, -1)", "assay(0, 2, 2, 1000001)", "assay(0, 3, 2, 1)");
    }

    private void promise15AssayOfABatchThatIsGone() {
        refused(Scenes.BUSY, "assay(1, 0, 2, 7)", "assay(1, 1, 2, 1)", "assay(1, 2, 2, 6)", "assay(2, 2, 1, 4)");
    }

    private void promise16Settled() {
        refused(Scenes.BUSY, "settled(0, 2)", "settled(0, 3)", "settled(-1, 0)", "settled(6, 0)");
        refused(Scenes.BUSY, "settled(0, -1)", "settled(0, 4)", "settled(3, 2)");
    }

    private void promise17Disputed() {
        refused(Scenes.BUSY, "disputed(0, 1)", "disputed(0, 2)", "disputed(-1, 0)", "disputed(6, 0)");
        refused(Scenes.BUSY, "disputed(0, -1)", "disputed(0, 4)", "disputed(3, 2)");
    }

    private void promise18Tolerance() {
        refused(Scenes.NEW, "tolerance(-1)", "tolerance(1000001)");
        refused(Scenes.BUSY, "tolerance(-1)", "tolerance(1000001)", "tolerance(-2147483648)", "tolerance(2147483647)");
        refused(Scenes.FULL, "tolerance(-1)", "tolerance(1000001)");
    }

    private void promise19Rule() {
        refused(Scenes.BUSY, "rule(-1, 0, 1, 1)", "rule(10, 0, 1, 1)", "rule(99, 0, 1, 1)");
        refused(Scenes.BUSY, "rule(0, -1, 1, 1)", "rule(0, 4, 1, 1)", "rule(0, 0, -1, 1)", "rule(0, 0, 1000001, 1)");
        refused(Scenes.BUSY, "rule(0, 0, 1, -1)", "rule(0, 0, 1, 100001)");
        refused(Scenes.FULL, "rule(0, 0, 1000000, 0)", "rule(9, 3, 1000000, 0)");
    }

    private void promise20Cls() {
        refused(Scenes.BUSY, "cls(-1)", "cls(6)", "cls(1)", "cls(2)");
    }

    private void promise21Mix() {
        refused(Scenes.NEW, "mix(0, 1)", "mix(0, 0)");
        refused(Scenes.BUSY, "mix(-1, 0)", "mix(0, -1)", "mix(6, 0)", "mix(0, 6)", "mix(6, 6)", "mix(-1, -1)");
    }

    private void promise21MixOfABatchThatIsGone() {
        refused(Scenes.BUSY, "mix(0, 1)", "mix(1, 0)", "mix(2, 5)", "mix(1, 2)", "mix(3, 1)");
    }

    private void promise21MixOfJustOneThatWasRun() {
        refused(Scenes.BUSY, "mix(0, 4)", "mix(4, 0)", "mix(3, 4)", "mix(4, 3)");
        refused(Scenes.LAST_DAY, "mix(0, 2)", "mix(3, 1)");
    }

    private void promise21MixOfABatchWithItself() {
        refused(Scenes.BUSY, "mix(0, 0)", "mix(3, 3)", "mix(4, 4)");
    }

    private void promise21MixWhenThereAreEight() {
        refused(Scenes.FULL, "mix(3, 4)", "mix(6, 7)", "mix(7, 3)", "mix(0, 1)");
    }

    private void promise22Dispute() {
        refused(Scenes.NEW, "dispute(0)");
        refused(Scenes.BUSY, "dispute(-1)", "dispute(2)", "dispute(8)", "dispute(2147483647)", "dispute(-2147483648)");
    }

    private void aRunOfRefusedCallsChangesNothing() {
        String[] many = {
            "batch(0)", "parts(4, 0, 1)", "today(11)", "stage(4, 0, 0)", "run(4)", "price(0, 11, 9)", "sell(2)",
            "assay(1, 0, 0, 0)", "tolerance(-1)", "rule(10, 0, 0, 0)", "mix(0, 4)", "mix(0, 0)", "run(1)"
        };
        List<AshMetals> twins = twinsOf(Scenes.BUSY);
        for (String text : many) {
            Call call = Call.of(text);
            due.is(text, call.on(twins.get(1)), call.refusal());
        }
        sameAnswers("refused calls", twins.get(0), twins.get(1));
    }

    private void everyCallAboutTheEdgesIsAnsweredAndChangesNothingWhereItIsRefused() {
        for (String[] scene : scenes()) {
            for (Call call : callsAboutTheEdges()) {
                long want = Scenes.model(scene).call(call.name, call.arguments);
                if (want == call.refusal() || call.onlyAsks()) {
                    changesNothing(scene, call, want);
                } else {
                    due.is(call.toString(), call.on(Scenes.made(scene)), want);
                }
            }
        }
    }

    private static String[][] scenes() {
        return new String[][] {Scenes.NEW, Scenes.BUSY, Scenes.FULL, Scenes.LAST_DAY};
    }

    private static String[] with(String[] scene, String more) {
        String[] all = Arrays.copyOf(scene, scene.length + 1);
        all[scene.length] = more;
        return all;
    }

    private void refused(String[] scene, String... calls) {
        for (String text : calls) {
            Call call = Call.of(text);
            changesNothing(scene, call, call.refusal());
        }
    }

    private void changesNothing(String[] scene, Call call, long want) {
        List<AshMetals> twins = twinsOf(scene);
        due.is(call.toString(), call.on(twins.get(1)), want);
        sameAnswers("now behind " + call, twins.get(0), twins.get(1));
        twins = twinsOf(scene);
        call.on(twins.get(1));
        for (String text : Scenes.AFTERWARDS) {
            Call next = Call.of(text);
            due.is(next + " behind " + call, next.on(twins.get(1)), next.on(twins.get(0)));
        }
        sameAnswers("later behind " + call, twins.get(0), twins.get(1));
    }

    private static List<AshMetals> twinsOf(String[] scene) {
        List<AshMetals> twins = new ArrayList<>();
        twins.add(Scenes.made(scene));
        twins.add(Scenes.made(scene));
        return twins;
    }

    private void sameAnswers(String when, AshMetals plain, AshMetals other) {
        for (Call question : QUESTIONS) {
            due.is(question + " " + when, question.on(other), question.on(plain));
        }
    }

    /** Every call with each argument at, next to and far from the edges of what is taken. */
    private static List<Call> callsAboutTheEdges() {
        long[] batches = {-1, 0, 1, 2, 3, 4, 5, 6, 7, 8, Integer.MIN_VALUE, Integer.MAX_VALUE};
        long[] stages = {-1, 0, 1, 2, 5, 6, Integer.MIN_VALUE, Integer.MAX_VALUE};
        long[] metals = {-1, 0, 1, 2, 3, 4};
        long[] parts = {-1, 0, 1000000, 1000001};
        long[] days = {-1, 0, 11, 12, 13, 99999, 100000, 100001};
        long[] thousandths = {-1, 0, 1000, 1001};
        List<Call> all = new ArrayList<>();
        add(all, "batch", new long[] {-1, 0, 1, 1000000000L, 1000000001L, 1L << 32, Long.MIN_VALUE, Long.MAX_VALUE});
        add(all, "parts", batches, metals, parts);
        add(all, "today", days);
        add(all, "today", INTS_FAR_OUT);
        add(all, "stage", metals, thousandths, thousandths);
        add(all, "run", batches);
        add(all, "taken", batches, stages, metals);
        add(all, "left", batches, metals);
        add(all, "grams", batches);
        add(all, "stock", stages, metals);
        add(all, "price", metals, days, new long[] {-1, 0, 1000000, 1000001});
        add(all, "worth", batches, days);
        add(all, "sell", stages);
        add(all, "money");
        add(all, "assay", batches, new long[] {-1, 0, 2, 3}, metals, new long[] {-1, 0, 1000001});
        add(all, "settled", batches, metals);
        add(all, "disputed", batches, metals);
        add(all, "tolerance", parts);
        add(all, "tolerance", INTS_FAR_OUT);
        add(all, "rule", new long[] {-1, 0, 9, 10}, metals, parts, new long[] {-1, 0, 100000, 100001});
        add(all, "cls", batches);
        add(all, "mix", batches, batches);
        add(all, "dispute", batches);
        return all;
    }

    private static void add(List<Call> all, String name, long[]... values) {
        int count = 1;
        for (long[] each : values) {
            count *= each.length;
        }
        for (int i = 0; i < count; i++) {
            long[] arguments = new long[values.length];
            int rest = i;
            for (int k = 0; k < values.length; k++) {
                arguments[k] = values[k][rest % values[k].length];
                rest /= values[k].length;
            }
            all.add(new Call(name, arguments));
        }
    }
}
