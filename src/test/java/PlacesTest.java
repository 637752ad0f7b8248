/** Nothing there at all, the last place that is free, and the call when all places are full. */
public final class PlacesTest {
    private static final int METALS = 4;
    private static final int MOST_BATCHES = 8;
    private static final int MOST_STAGES = 6;
    private static final int MOST_RULES = 8;
    private static final int MOST_PRICES = 6;
    private static final int CALLS_OF_AN_OBJECT = 512;

    private final Due due = new Due();

    public static void main(String[] args) {
        PlacesTest test = new PlacesTest();
        test.due.runAll(test);
    }

    private void promise1NoBatches() {
        AshMetals x = new AshMetals();
        due.no("parts", x.parts(0, 0, 0));
        due.none("run", x.run(0));
        due.none("taken", x.taken(0, 0, 0));
        due.none("left", x.left(0, 0));
        due.none("grams", x.grams(0));
        due.none("worth", x.worth(0, 0));
        due.no("assay", x.assay(0, 0, 0, 0));
        due.none("settled", x.settled(0, 0));
        due.no("disputed", x.disputed(0, 0));
        due.none("cls", x.cls(0));
        due.none("mix", x.mix(0, 1));
        due.none("mix with itself", x.mix(0, 0));
        due.none("dispute", x.dispute(0));
        due.is("the first batch all the same", x.batch(1), 0);
    }

    private void promise1NoStages() {
        AshMetals x = new AshMetals();
        due.none("stock", x.stock(0, 0));
        due.none("sell", x.sell(0));
        due.is("money", x.money(), 0);
        x.batch(5);
        x.parts(0, 0, 1000000);
        due.is("run goes through none", x.run(0), 0);
        due.none("run once, even through none", x.run(0));
        due.is("run takes no grams", x.grams(0), 5);
        due.is("run takes no metal", x.left(0, 0), 5000000);
        due.none("taken by none", x.taken(0, 0, 0));
        due.is("the first stage", x.stage(0, 1000, 0), 0);
        due.none("it was no stage of that run", x.taken(0, 0, 0));
        due.is("nothing came to it", x.stock(0, 0), 0);
    }

    private void promise1NoRules() {
        AshMetals x = new AshMetals();
        x.batch(1);
        tellAll(x, 0, 0, 0);
        due.is("cls", x.cls(0), 99);
        due.is("the first rule", x.rule(3, 0, 0, 0), 0);
        due.is("cls by it", x.cls(0), 3);
    }

    private void promise1NoPrices() {
        AshMetals x = new AshMetals();
        x.stage(0, 500, 500);
        x.batch(1000);
        for (int metal = 0; metal < METALS; metal++) {
            x.parts(0, metal, 1000000);
        }
        due.is("worth on the first day", x.worth(0, 0), 0);
        due.is("worth on the last day", x.worth(0, 100000), 0);
        x.run(0);
        due.is("sell", x.sell(0), 0);
        due.is("money", x.money(), 0);
    }

    private void promise1ObjectsShareNothing() {
        AshMetals x = new AshMetals();
        x.batch(1);
        x.stage(0, 1, 1);
        x.rule(1, 0, 1000000, 0);
        x.price(0, 0, 9);
        x.today(50);
        x.tolerance(0);
        AshMetals y = new AshMetals();
        due.none("no batch", y.grams(0));
        due.none("no stage", y.stock(0, 0));
        due.yes("today is 0", y.today(0));
        y.batch(1);
        y.parts(0, 0, 1000000);
        tellAll(y, 0, 0, 100);
        due.is("no rule", y.cls(0), 99);
        due.is("no price", y.worth(0, 100000), 0);
        y.assay(0, 2, 0, 150);
        due.no("the first tolerance", y.disputed(0, 0));
    }

    private void promise2ABatchWithoutMetals() {
        AshMetals x = new AshMetals();
        x.batch(1000000000L);
        x.stage(0, 1000, 1000);
        x.price(0, 0, 1000000);
        for (int metal = 0; metal < METALS; metal++) {
            due.is("left", x.left(0, metal), 0);
        }
        due.is("worth", x.worth(0, 0), 0);
        due.is("run", x.run(0), 1);
        for (int metal = 0; metal < METALS; metal++) {
            due.is("taken", x.taken(0, 0, metal), 0);
            due.is("stock", x.stock(0, metal), 0);
        }
        due.is("grams stay", x.grams(0), 1000000000L);
    }

    private void promise2EighthBatchIsTakenAndNinthIsNot() {
        AshMetals x = new AshMetals();
        for (int i = 0; i < MOST_BATCHES; i++) {
            due.none("not there yet: " + i, x.grams(i));
            due.is("batch " + i, x.batch(i + 1), i);
        }
        due.none("ninth", x.batch(9));
        due.none("ninth is not there", x.grams(8));
        for (int i = 0; i < MOST_BATCHES; i++) {
            due.is("kept: " + i, x.grams(i), i + 1);
        }
    }

    private void promise2TheEighthBatchCanDoAll() {
        AshMetals x = new AshMetals();
        x.stage(3, 1000, 0);
        batches(x, MOST_BATCHES);
        due.yes("parts", x.parts(7, 3, 1000000));
        due.is("left", x.left(7, 3), 1000000);
        due.is("other batches have none", x.left(6, 3), 0);
        due.yes("assay", x.assay(7, 2, 3, 1000000));
        tellAll(x, 7, 3, 5);
        due.is("settled", x.settled(7, 3), 5);
        due.none("others are not", x.settled(6, 3));
        due.is("run", x.run(7), 1);
        due.is("taken", x.taken(7, 0, 3), 1000000);
        due.is("grams", x.grams(7), 0);
        due.is("cls", x.cls(7), 99);
        due.none("there is no ninth to settle", x.settled(8, 0));
        due.none("there is no ninth to run", x.run(8));
        due.none("there is no ninth to class", x.cls(8));
        due.none("there is no ninth to mix", x.mix(0, 8));
        due.no("there is no ninth to assay", x.assay(8, 0, 0, 0));
    }

    private void promise2BatchesThatAreGoneKeepTheirPlaces() {
        AshMetals x = new AshMetals();
        batches(x, 6);
        due.is("seventh is mixed", x.mix(0, 1), 6);
        due.is("eighth is made", x.batch(1), 7);
        due.none("two are gone, and yet there are 8", x.batch(1));
    }

    private void promise21TheEighthMayBeMixed() {
        AshMetals x = new AshMetals();
        batches(x, 7);
        due.is("the last place", x.mix(0, 1), 7);
        due.none("no batch behind it", x.batch(1));
        due.none("no mix behind it", x.mix(2, 3));
        due.none("no mix with it", x.mix(2, 7));
        due.is("they are not gone", x.cls(2), 99);
        due.is("nor is it", x.cls(7), 99);
    }

    private void promise21NoPlaceForAMix() {
        AshMetals x = new AshMetals();
        batches(x, MOST_BATCHES);
        due.none("there are 8", x.mix(6, 7));
        due.none("there is no ninth", x.grams(8));
        due.is("not gone", x.cls(6), 99);
        due.is("not gone", x.cls(7), 99);
    }

    private void promise5SixthStageIsTakenAndSeventhIsNot() {
        AshMetals x = new AshMetals();
        for (int i = 0; i < MOST_STAGES; i++) {
            due.none("not there yet: " + i, x.stock(i, 0));
            due.is("stage " + i, x.stage(0, 1000, 0), i);
        }
        due.none("seventh", x.stage(0, 1000, 0));
        due.none("seventh is not there", x.stock(6, 0));
        due.none("seventh does not sell", x.sell(6));
        x.batch(1);
        due.is("a run goes through six", x.run(0), 6);
    }

    private void promise5TheSixthStageCanDoAll() {
        AshMetals x = new AshMetals();
        for (int i = 0; i < MOST_STAGES - 1; i++) {
            x.stage(0, 0, 0);
        }
        x.stage(3, 1000, 500);
        x.price(3, 0, 7);
        x.batch(2);
        x.parts(0, 0, 1000000);
        x.parts(0, 3, 1000000);
        due.is("run", x.run(0), 6);
        due.is("taken", x.taken(0, 5, 3), 2000000);
        due.is("dragged", x.taken(0, 5, 0), 1000000);
        due.is("the fifth takes none", x.taken(0, 4, 3), 0);
        due.none("there is no seventh", x.taken(0, 6, 0));
        due.is("stock", x.stock(5, 3), 2000000);
        due.is("sell", x.sell(5), 14);
    }

    private void promise19EighthRuleIsTakenAndNinthIsNot() {
        AshMetals x = new AshMetals();
        x.batch(1);
        tellAll(x, 0, 3, 5);
        tellAll(x, 0, 2, 5);
        for (int i = 0; i < MOST_RULES - 1; i++) {
            due.is("rule " + i, x.rule(1, 3, 4, 0), i);
        }
        due.is("no rule fits", x.cls(0), 99);
        due.is("eighth", x.rule(8, 3, 5, 0), 7);
        due.is("the eighth fits", x.cls(0), 8);
        due.none("ninth", x.rule(9, 2, 1000000, 0));
        x.assay(0, 0, 3, 6);
        x.assay(0, 1, 3, 6);
        due.is("the ninth is not kept", x.cls(0), 99);
    }

    private void promise11SixthPriceIsTakenAndSeventhIsNot() {
        for (int metal = 0; metal < METALS; metal++) {
            AshMetals x = new AshMetals();
            x.batch(1);
            x.parts(0, metal, 1000000);
            for (int i = 0; i < MOST_PRICES; i++) {
                due.yes("price " + i + " of metal " + metal, x.price(metal, 10 * i, 100 + i));
            }
            due.no("seventh of metal " + metal, x.price(metal, 60, 999));
            for (int i = 0; i < MOST_PRICES; i++) {
                due.is("price " + i + " counts", x.worth(0, 10 * i), 100 + i);
            }
            due.is("the seventh does not", x.worth(0, 60), 105);
        }
    }

    private void promise11EachMetalHasSixPlacesOfItsOwn() {
        AshMetals x = new AshMetals();
        x.batch(1);
        for (int metal = 0; metal < METALS; metal++) {
            for (int i = 0; i < MOST_PRICES; i++) {
                due.yes("price", x.price(metal, i, 10 * metal + i));
            }
        }
        for (int metal = 0; metal < METALS; metal++) {
            due.no("full", x.price(metal, 6, 1));
            x.parts(0, metal, 1000000);
            for (int i = 0; i < MOST_PRICES; i++) {
                due.is("worth", x.worth(0, i), 10 * metal + i);
            }
            x.parts(0, metal, 0);
        }
    }

    private void promise13AnEmptyStock() {
        AshMetals x = new AshMetals();
        x.stage(0, 1000, 1000);
        x.price(0, 0, 1000000);
        due.is("sells for nothing", x.sell(0), 0);
        due.is("no money", x.money(), 0);
        x.batch(3);
        x.parts(0, 0, 1000000);
        x.run(0);
        due.is("sells all", x.sell(0), 3000000);
        due.is("is nothing then", x.stock(0, 0), 0);
        due.is("sells for nothing again", x.sell(0), 0);
        due.is("money stays", x.money(), 3000000);
    }

    private void promise22NoneIsDisputed() {
        AshMetals x = new AshMetals();
        batches(x, MOST_BATCHES);
        due.none("nobody told", x.dispute(0));
        for (int i = 0; i < MOST_BATCHES; i++) {
            tellAll(x, i, 0, 7);
        }
        due.none("all told the same", x.dispute(0));
    }

    private void promise22AllEightAreDisputed() {
        AshMetals x = new AshMetals();
        batches(x, MOST_BATCHES);
        for (int i = 0; i < MOST_BATCHES; i++) {
            tellAll(x, i, 3, 0);
            x.assay(i, 1, 3, 51);
        }
        for (int k = 0; k < MOST_BATCHES; k++) {
            due.is("k " + k, x.dispute(k), k);
        }
        due.none("there is no ninth", x.dispute(8));
    }

    private void theLastOfTheCallsOfAnObjectIsAnswered() {
        AshMetals x = new AshMetals();
        x.batch(1);
        x.parts(0, 0, 1000000);
        x.stage(0, 1000, 0);
        for (int call = 4; call < CALLS_OF_AN_OBJECT; call++) {
            due.is("call " + call, x.left(0, 0), 1000000);
        }
        due.is("call 512", x.run(0), 1);
    }

    private void theLastOfTheCallsOfAnObjectMayBeRefused() {
        AshMetals x = new AshMetals();
        for (int call = 1; call <= CALLS_OF_AN_OBJECT - 2; call++) {
            due.none("call " + call, x.batch(0));
        }
        due.is("call 511", x.batch(1), 0);
        due.none("call 512", x.batch(1000000001L));
    }

    private static void batches(AshMetals x, int count) {
        for (int i = 0; i < count; i++) {
            x.batch(1);
        }
    }

    private static void tellAll(AshMetals x, int batch, int metal, int parts) {
        Scenes.tell(x, batch, metal, parts, parts, parts);
    }
}
