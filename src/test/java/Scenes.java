import java.util.ArrayList;
import java.util.List;

/** Objects in which there is something that a refused call could change, and all that they then answer. */
final class Scenes {
    static final String[] NEW = {};

    /**
     * Of all kinds something, and places free: batches 0, 5 are plain, 1 and 2 gone into 3 (mixed, not run), 4 is
     * run; metal 0 of batch 0 is disputed by just one more than the tolerance, metal 1 settled by just it,
     * metal 2 told by two labs; of the gone ones 1 is settled and 2 told by two labs. Today is 12.
     */
    static final String[] BUSY = {
        "today(10)", "batch(1000000)", "batch(7)", "batch(9)",
        "parts(0, 0, 300000)", "parts(0, 1, 50001)", "parts(0, 3, 7)", "parts(1, 2, 999999)", "parts(2, 2, 3)",
        "assay(1, 0, 2, 5)", "assay(1, 1, 2, 6)", "assay(1, 2, 2, 900)",
        "assay(2, 0, 1, 4)", "assay(2, 1, 1, 4)", "mix(1, 2)",
        "stage(0, 500, 10)", "stage(1, 300, 20)",
        "batch(2000000)", "parts(4, 0, 123457)", "parts(4, 1, 77777)", "parts(4, 2, 1000000)", "run(4)",
        "price(0, 3, 100)", "price(0, 11, 200)", "price(1, 12, 5)", "price(2, 0, 7)",
        "today(12)", "sell(0)", "batch(5)", "parts(5, 1, 1000000)", "tolerance(60)",
        "assay(0, 0, 0, 100)", "assay(0, 1, 0, 161)", "assay(0, 2, 0, 140)",
        "assay(0, 0, 1, 40)", "assay(0, 1, 1, 100)", "assay(0, 2, 1, 70)", "assay(0, 0, 2, 8)", "assay(0, 1, 2, 9)",
        "assay(4, 0, 3, 0)", "assay(4, 1, 3, 1000000)", "assay(4, 2, 3, 30)",
        "assay(5, 0, 0, 11)", "assay(5, 1, 0, 12)", "assay(5, 2, 0, 13)",
        "rule(3, 1, 70, 2)", "rule(4, 0, 12, 0)"
    };

    /** All places are taken: 8 batches (0, 1 gone into 6; 2 run; 7 the last), 6 stages, 8 rules, 6 prices each. */
    static final String[] FULL = {
        "batch(1000)", "batch(2000)", "batch(3000)", "batch(4000)", "today(20)", "batch(5000)", "batch(6000)",
        "parts(0, 0, 400000)", "parts(1, 1, 300001)", "parts(2, 2, 1000000)", "parts(3, 3, 123)", "mix(0, 1)",
        "batch(1000000000)", "parts(7, 0, 1000000)",
        "stage(0, 900, 1)", "stage(1, 800, 2)", "stage(2, 700, 3)", "stage(3, 600, 4)", "stage(0, 500, 5)",
        "stage(1, 400, 6)", "run(2)",
        "price(0, 0, 1)", "price(0, 1, 2)", "price(0, 2, 3)", "price(0, 3, 4)", "price(0, 19, 5)", "price(0, 21, 6)",
        "price(1, 0, 7)", "price(1, 1, 8)", "price(1, 2, 9)", "price(1, 3, 10)", "price(1, 4, 11)", "price(1, 5, 12)",
        "price(2, 0, 13)", "price(2, 1, 14)", "price(2, 2, 15)", "price(2, 3, 16)", "price(2, 4, 17)", "price(2, 5, 18)",
        "price(3, 0, 19)", "price(3, 1, 20)", "price(3, 2, 21)", "price(3, 3, 22)", "price(3, 4, 23)", "price(3, 5, 24)",
        "sell(1)",
        "assay(7, 0, 0, 0)", "assay(7, 1, 0, 51)", "assay(7, 2, 0, 1)", "assay(3, 0, 3, 5)", "assay(3, 1, 3, 55)",
        "assay(3, 2, 3, 6)",
        "rule(0, 0, 0, 0)", "rule(1, 0, 1, 0)", "rule(2, 1, 1, 0)", "rule(3, 1, 2, 0)", "rule(4, 2, 2, 0)",
        "rule(5, 2, 3, 0)", "rule(6, 3, 5, 0)", "rule(7, 3, 6, 20)"
    };

    /** The last of all days, and prices up to it; two mixes are possible, of run and of not run batches. */
    static final String[] LAST_DAY = {
        "batch(10)", "batch(20)", "batch(30)", "batch(40)", "parts(0, 0, 1000000)", "parts(2, 0, 500000)",
        "stage(0, 1000, 1000)", "run(2)", "run(3)", "price(0, 0, 3)", "price(0, 99999, 4)", "price(0, 100000, 5)",
        "rule(2, 0, 1000000, 100000)", "assay(0, 0, 0, 0)", "assay(0, 1, 0, 0)", "assay(0, 2, 0, 50)",
        "today(100000)"
    };

    /** Calls that show what an object keeps without telling: today, which places are free, what may still be changed. */
    static final String[] AFTERWARDS = {
        "today(0)", "today(11)", "today(12)", "parts(0, 1, 11)", "parts(3, 1, 12)", "parts(5, 2, 13)", "parts(7, 3, 14)",
        "assay(0, 2, 2, 10)", "assay(3, 0, 0, 9)", "assay(6, 0, 1, 9)", "assay(6, 1, 1, 9)", "assay(6, 2, 1, 9)",
        "price(0, 13, 40)", "price(1, 13, 41)", "price(2, 100000, 42)", "price(3, 0, 43)", "batch(77)", "stage(3, 250, 125)",
        "rule(9, 2, 10, 2)", "run(0)", "run(3)", "run(4)", "run(5)", "run(6)", "sell(0)", "sell(1)", "sell(2)",
        "mix(0, 3)", "mix(4, 5)", "mix(2, 3)", "today(20)", "today(21)", "tolerance(61)"
    };

    private Scenes() {
    }

    static AshMetals made(String[] scene) {
        AshMetals x = new AshMetals();
        for (String call : scene) {
            Call.of(call).on(x);
        }
        return x;
    }

    /** All three labs tell of a metal in a batch. */
    static void tell(AshMetals x, int batch, int metal, int first, int second, int third) {
        x.assay(batch, 0, metal, first);
        x.assay(batch, 1, metal, second);
        x.assay(batch, 2, metal, third);
    }

    static Model model(String[] scene) {
        Model model = new Model();
        for (String text : scene) {
            Call call = Call.of(text);
            model.call(call.name, call.arguments);
        }
        return model;
    }

    /** Every question that can be put to an object, one place beyond the last batch and stage too. */
    static List<Call> questions() {
        List<Call> all = new ArrayList<>();
        all.add(new Call("money"));
        for (int batch = 0; batch < 8; batch++) {
            all.add(new Call("worth", batch, 12));
            all.add(new Call("worth", batch, 100000));
            all.add(new Call("cls", batch));
            all.add(new Call("dispute", batch));
            for (int metal = 0; metal < 4; metal++) {
                all.add(new Call("left", batch, metal));
                all.add(new Call("settled", batch, metal));
                all.add(new Call("disputed", batch, metal));
                for (int stage = 0; stage < 6; stage++) {
                    all.add(new Call("taken", batch, stage, metal));
                }
            }
        }
        for (int batch = 0; batch <= 8; batch++) {
            all.add(new Call("grams", batch));
        }
        for (int stage = 0; stage <= 6; stage++) {
            for (int metal = 0; metal < 4; metal++) {
                all.add(new Call("stock", stage, metal));
            }
        }
        return all;
    }
}
