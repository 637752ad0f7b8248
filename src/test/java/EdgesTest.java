/** Each sentence of the document about how much, how far down, how old, which one of several: just at the edge. */
public final class EdgesTest {
    private static final int METALS = 4;
    private static final int MILLION = 1000000;
    private static final long MOST_GRAMS = 1000000000L;

    private final Due due = new Due();

    public static void main(String[] args) {
        EdgesTest test = new EdgesTest();
        test.due.runAll(test);
    }

    // Amounts: "at first its grams times so many parts (in a million)".

    private void promise3LeastPartsAreNothing() {
        AshMetals x = withMetal(MOST_GRAMS, 1, MILLION);
        due.yes("0 parts", x.parts(0, 1, 0));
        due.is("left", x.left(0, 1), 0);
    }

    private void promise3OnePartOfOneGramIsAMillionth() {
        AshMetals x = withMetal(1, 3, 1);
        due.is("left", x.left(0, 3), 1);
    }

    private void promise3GreatestPartsOfTheGreatestBatch() {
        AshMetals x = withMetal(MOST_GRAMS, 0, MILLION);
        due.is("left", x.left(0, 0), 1000000000000000L);
        due.is("grams stay", x.grams(0), MOST_GRAMS);
    }

    private void promise3PartsOfAllMetalsMayPassAMillion() {
        AshMetals x = new AshMetals();
        x.batch(2);
        for (int metal = 0; metal < METALS; metal++) {
            due.yes("metal " + metal, x.parts(0, metal, MILLION));
        }
        for (int metal = 0; metal < METALS; metal++) {
            due.is("left " + metal, x.left(0, metal), 2000000);
        }
    }

    private void promise3PartsAgainTakeThePlaceOfTheOldOnes() {
        AshMetals x = withMetal(3, 2, 500);
        due.yes("again", x.parts(0, 2, 499));
        due.is("left", x.left(0, 2), 1497);
    }

    // Days: "TODAY is a day that never falls, 0 at first; a batch's AGE is today less its day (0 at least)."

    private void promise4TodayMayStay() {
        AshMetals x = new AshMetals();
        due.yes("0 at first", x.today(0));
        due.yes("7", x.today(7));
        due.yes("7 again", x.today(7));
        due.no("6", x.today(6));
        due.yes("7 still", x.today(7));
        due.yes("8", x.today(8));
        due.no("7 no more", x.today(7));
    }

    private void termsAgeIsNothingOnTheDayOfTheBatch() {
        AshMetals x = new AshMetals();
        x.today(100000);
        x.batch(1);
        Scenes.tell(x, 0, 0, 0, 0, 0);
        x.rule(5, 0, 0, 1);
        due.is("age 1 is too old", x.cls(0), 99);
        x.rule(6, 0, 0, 0);
        due.is("age 0 fits", x.cls(0), 6);
    }

    private void termsAgeGoesUpToTheLastDay() {
        AshMetals x = new AshMetals();
        x.batch(1);
        Scenes.tell(x, 0, 0, 0, 0, 0);
        x.rule(5, 0, 0, 100000);
        x.today(99999);
        due.is("a day too young", x.cls(0), 99);
        x.today(100000);
        due.is("old enough", x.cls(0), 5);
    }

    private void termsAgeCountsFromTheDayOfTheBatch() {
        AshMetals x = new AshMetals();
        x.today(30);
        x.batch(1);
        Scenes.tell(x, 0, 0, 0, 0, 0);
        x.rule(5, 0, 0, 10);
        x.today(39);
        due.is("9 days", x.cls(0), 99);
        x.today(40);
        due.is("10 days", x.cls(0), 5);
        x.today(41);
        due.is("11 days", x.cls(0), 5);
    }

    // Stages: "so many thousandths of what is left of it, and drags so many thousandths of each other metal, each down".

    private void promise5NoThousandthsTakeNothing() {
        AshMetals x = fullBatch(1000, 1, 0, 1000);
        due.is("own", x.taken(0, 0, 1), 0);
        due.is("own is left", x.left(0, 1), 1000000000L);
        due.is("another", x.taken(0, 0, 0), 1000000000L);
    }

    private void promise5AllThousandthsTakeAll() {
        AshMetals x = fullBatch(1000, 1, 1000, 0);
        due.is("own", x.taken(0, 0, 1), 1000000000L);
        due.is("none is left", x.left(0, 1), 0);
        for (int metal = 0; metal < METALS; metal++) {
            due.is("others " + metal, x.taken(0, 0, metal), metal == 1 ? 1000000000L : 0);
        }
    }

    private void promise5TheOwnMetalIsNotDraggedToo() {
        AshMetals x = fullBatch(1000, 2, 1, 999);
        for (int metal = 0; metal < METALS; metal++) {
            due.is("taken " + metal, x.taken(0, 0, metal), metal == 2 ? 1000000L : 999000000L);
        }
    }

    private void promise6ThousandthsGoDown() {
        due.is("999 times 1", takenOf(999, 1), 0);
        due.is("1000 times 1", takenOf(1000, 1), 1);
        due.is("1001 times 1", takenOf(1001, 1), 1);
        due.is("1 times 999", takenOf(1, 999), 0);
        due.is("1 times 1000", takenOf(1, 1000), 1);
        due.is("1999 times 1", takenOf(1999, 1), 1);
        due.is("999999 times 999", takenOf(999999, 999), 998999);
    }

    private void promise6DragsGoDownEachByItself() {
        AshMetals x = new AshMetals();
        x.batch(1);
        x.parts(0, 1, 999);
        x.parts(0, 2, 999);
        x.parts(0, 3, 1000);
        x.stage(0, 0, 1);
        x.run(0);
        due.is("999", x.taken(0, 0, 1), 0);
        due.is("999, not together with the other", x.taken(0, 0, 2), 0);
        due.is("1000", x.taken(0, 0, 3), 1);
        due.is("left", x.left(0, 1), 999);
        due.is("left", x.left(0, 3), 999);
    }

    private void promise6TheNextStageTakesOfWhatIsLeft() {
        AshMetals x = withMetal(1, 0, 1001);
        x.stage(0, 500, 0);
        x.stage(0, 500, 0);
        x.stage(0, 500, 0);
        due.is("run", x.run(0), 3);
        due.is("first", x.taken(0, 0, 0), 500);
        due.is("second", x.taken(0, 1, 0), 250);
        due.is("third", x.taken(0, 2, 0), 125);
        due.is("left", x.left(0, 0), 126);
    }

    private void promise6NothingIsLeftForTheNextStage() {
        AshMetals x = withMetal(9, 0, MILLION);
        x.stage(0, 1000, 0);
        x.stage(0, 1000, 0);
        due.is("run", x.run(0), 2);
        due.is("first", x.taken(0, 0, 0), 9000000);
        due.is("second", x.taken(0, 1, 0), 0);
        due.is("grams", x.grams(0), 0);
    }

    private void promise6StagesOfLaterDoNotTake() {
        AshMetals x = withMetal(9, 0, MILLION);
        x.stage(0, 0, 0);
        due.is("run", x.run(0), 1);
        x.stage(0, 1000, 0);
        due.none("again", x.run(0));
        due.none("no stage of that run", x.taken(0, 1, 0));
        due.is("of that run", x.taken(0, 0, 0), 0);
        due.is("left", x.left(0, 0), 9000000);
    }

    // Grams: "less then by what was taken of all metals together, over 1000000, down, for each stage by itself (not below 0)".

    private void promise6JustBelowAGramTakesNoGram() {
        AshMetals x = withMetal(1, 0, 999999);
        x.stage(0, 1000, 0);
        x.run(0);
        due.is("grams", x.grams(0), 1);
    }

    private void promise6JustAGramTakesAGram() {
        AshMetals x = withMetal(1, 0, MILLION);
        x.stage(0, 1000, 0);
        x.run(0);
        due.is("grams", x.grams(0), 0);
    }

    private void promise6JustBelowTwoGramsTakesOne() {
        AshMetals x = withMetal(3, 0, 666666);
        x.stage(0, 1000, 0);
        x.run(0);
        due.is("taken", x.taken(0, 0, 0), 1999998);
        due.is("grams", x.grams(0), 2);
    }

    private void promise6MetalsCountTogetherBeforeItGoesDown() {
        AshMetals x = new AshMetals();
        x.batch(2);
        for (int metal = 0; metal < METALS; metal++) {
            x.parts(0, metal, 125000);
        }
        x.stage(0, 1000, 1000);
        x.run(0);
        due.is("four quarters of a gram", x.grams(0), 1);
    }

    private void promise6StagesDoNotCountTogether() {
        AshMetals x = withMetal(2, 0, MILLION);
        x.stage(0, 400, 0);
        x.stage(0, 500, 0);
        x.run(0);
        due.is("first", x.taken(0, 0, 0), 800000);
        due.is("second", x.taken(0, 1, 0), 600000);
        due.is("1.4 grams, but no stage took one", x.grams(0), 2);
    }

    private void promise6GramsDoNotFallBelowNothing() {
        AshMetals x = fullBatch(1, 0, 1000, 1000);
        due.is("four grams of one", x.grams(0), 0);
        AshMetals y = fullBatch(MOST_GRAMS, 0, 1000, 1000);
        due.is("four of one", y.grams(0), 0);
    }

    private void promise6GramsStayAtNothingStageAfterStage() {
        AshMetals x = new AshMetals();
        for (int stage = 0; stage < 6; stage++) {
            x.stage(0, 500, 500);
        }
        x.batch(1000);
        for (int metal = 0; metal < METALS; metal++) {
            x.parts(0, metal, MILLION);
        }
        due.is("run", x.run(0), 6);
        due.is("grams", x.grams(0), 0);
        due.is("the sixth took some", x.taken(0, 5, 0), 15625000);
    }

    // Stocks: "what is taken of it comes to the stage's stock".

    private void promise10StocksOfTheMostThatThereCanBe() {
        AshMetals x = new AshMetals();
        x.stage(0, 1000, 1000);
        for (int batch = 0; batch < 8; batch++) {
            x.batch(MOST_GRAMS);
            for (int metal = 0; metal < METALS; metal++) {
                x.parts(batch, metal, MILLION);
            }
            x.run(batch);
        }
        for (int metal = 0; metal < METALS; metal++) {
            due.is("stock " + metal, x.stock(0, metal), 8000000000000000L);
            x.price(metal, 0, MILLION);
        }
        due.is("sell, past a long before it is over 1000000", x.sell(0), 32000000000000000L);
        due.is("money", x.money(), 32000000000000000L);
        due.is("nothing then", x.stock(0, 3), 0);
    }

    private void promise21TheMostThatCanBeMixed() {
        AshMetals x = new AshMetals();
        for (int batch = 0; batch < 4; batch++) {
            x.batch(MOST_GRAMS);
            x.parts(batch, 0, MILLION);
        }
        x.mix(0, 1);
        x.mix(4, 2);
        due.is("four in one", x.mix(5, 3), 6);
        due.is("grams", x.grams(6), 4000000000L);
        due.is("left", x.left(6, 0), 4000000000000000L);
        x.price(0, 0, MILLION);
        due.is("worth, past a long before it is over 1000000", x.worth(6, 0), 4000000000000000L);
        x.stage(0, 1000, 0);
        due.is("run", x.run(6), 1);
        due.is("taken, a thousand times as much on the way", x.taken(6, 0, 0), 4000000000000000L);
    }

    // Prices: "cents a gram from a day on; on a day the one of the latest day not behind it, 0 when there is none".

    private void promise11APriceCountsFromItsDayOn() {
        AshMetals x = withMetal(1, 0, MILLION);
        x.price(0, 10, 3);
        due.is("the day before", x.worth(0, 9), 0);
        due.is("the day", x.worth(0, 10), 3);
        due.is("the day after", x.worth(0, 11), 3);
        x.price(0, 20, 4);
        due.is("the day before the next", x.worth(0, 19), 3);
        due.is("the day of the next", x.worth(0, 20), 4);
    }

    private void promise11APriceOfNothingEndsAPrice() {
        AshMetals x = withMetal(1, 0, MILLION);
        x.price(0, 10, 3);
        due.yes("0 cents", x.price(0, 11, 0));
        due.is("before", x.worth(0, 10), 3);
        due.is("then", x.worth(0, 11), 0);
    }

    private void promise11PricesOfTheFirstAndTheLastDay() {
        AshMetals x = withMetal(1, 0, MILLION);
        due.yes("first day", x.price(0, 0, 1));
        due.yes("last day", x.price(0, 100000, MILLION));
        due.no("none behind it", x.price(0, 100000, 2));
        due.is("first day", x.worth(0, 0), 1);
        due.is("the day before the last", x.worth(0, 99999), 1);
        due.is("last day", x.worth(0, 100000), MILLION);
        due.is("behind it", x.worth(0, 100001), MILLION);
        due.is("far behind it", x.worth(0, Integer.MAX_VALUE), MILLION);
    }

    private void promise11APriceMustBeLaterThanTheOneOfItsMetalAlone() {
        AshMetals x = new AshMetals();
        due.yes("metal 0", x.price(0, 50, 1));
        due.yes("metal 1, earlier", x.price(1, 49, 1));
        due.no("metal 0, the same day", x.price(0, 50, 2));
        due.yes("metal 0, a day later", x.price(0, 51, 2));
        due.yes("metal 1, the day of metal 0", x.price(1, 50, 2));
    }

    private void promise11APriceMayBeOfADayBeforeToday() {
        AshMetals x = withMetal(1, 0, MILLION);
        x.today(100000);
        due.yes("day 0", x.price(0, 0, 8));
        due.is("worth", x.worth(0, 0), 8);
    }

    private void promise12WorthGoesDown() {
        AshMetals x = withMetal(1, 0, 999999);
        x.price(0, 0, 1);
        due.is("just below a cent", x.worth(0, 0), 0);
        x.parts(0, 0, MILLION);
        due.is("just a cent", x.worth(0, 0), 1);
        AshMetals y = withMetal(1, 0, 1);
        y.price(0, 0, 999999);
        due.is("just below a cent", y.worth(0, 0), 0);
        y.price(0, 1, MILLION);
        due.is("just a cent", y.worth(0, 1), 1);
    }

    private void promise12WorthCountsMetalsTogetherBeforeItGoesDown() {
        AshMetals x = new AshMetals();
        x.batch(1);
        for (int metal = 0; metal < METALS; metal++) {
            x.price(metal, 0, 1);
            x.parts(0, metal, 250000);
        }
        due.is("four quarters", x.worth(0, 0), 1);
        x.parts(0, 3, 249999);
        due.is("just below", x.worth(0, 0), 0);
    }

    private void promise12WorthLeavesTheBatchAsItIs() {
        AshMetals x = withMetal(1, 0, MILLION);
        x.price(0, 0, 5);
        due.is("worth", x.worth(0, 0), 5);
        due.is("again", x.worth(0, 0), 5);
        due.is("no money", x.money(), 0);
    }

    private void promise13SellGoesDown() {
        due.is("just below a cent", soldFor(999999, 1), 0);
        due.is("just a cent", soldFor(MILLION, 1), 1);
        due.is("just below a cent", soldFor(1, 999999), 0);
        due.is("just a cent", soldFor(1, MILLION), 1);
    }

    private void promise13SellCountsMetalsTogetherBeforeItGoesDown() {
        AshMetals x = new AshMetals();
        x.stage(0, 1000, 1000);
        x.batch(1);
        for (int metal = 0; metal < METALS; metal++) {
            x.price(metal, 0, 1);
            x.parts(0, metal, 250000);
        }
        x.run(0);
        due.is("four quarters", x.sell(0), 1);
    }

    private void promise13SellKeepsNoPartOfACent() {
        AshMetals x = new AshMetals();
        x.stage(0, 1000, 0);
        x.price(0, 0, 1);
        for (int batch = 0; batch < 2; batch++) {
            x.batch(1);
            x.parts(batch, 0, 500000);
            x.run(batch);
            due.is("half a cent", x.sell(0), 0);
        }
        due.is("two halves make none", x.money(), 0);
        due.is("the stock is nothing", x.stock(0, 0), 0);
    }

    private void promise13SellTakesThePriceOfToday() {
        AshMetals x = withMetal(1, 0, MILLION);
        x.stage(0, 1000, 0);
        x.run(0);
        x.price(0, 9, 3);
        x.price(0, 10, 5);
        x.price(0, 11, 7);
        x.today(10);
        due.is("sell", x.sell(0), 5);
    }

    private void promise13SellBeforeTheFirstPrice() {
        AshMetals x = withMetal(1, 0, MILLION);
        x.stage(0, 1000, 0);
        x.run(0);
        x.price(0, 1, 3);
        due.is("sell", x.sell(0), 0);
        due.is("the stock is nothing all the same", x.stock(0, 0), 0);
    }

    private void promise13SellLeavesOtherStagesAsTheyAre() {
        AshMetals x = withMetal(4, 0, MILLION);
        x.stage(0, 500, 0);
        x.stage(0, 500, 0);
        x.price(0, 0, 1);
        x.run(0);
        due.is("the second", x.sell(1), 1);
        due.is("the first's stock", x.stock(0, 0), 2000000);
        due.is("the first", x.sell(0), 2);
        due.is("money of both", x.money(), 3);
    }

    // Assays: "told again it is that", "when all three told", "the middle one of the three", "more above the least".

    private void promise15ToldAgainItIsThat() {
        AshMetals x = new AshMetals();
        x.batch(1);
        Scenes.tell(x, 0, 0, 10, 20, 30);
        due.yes("again", x.assay(0, 1, 0, 40));
        due.is("settled", x.settled(0, 0), 30);
        due.yes("and again", x.assay(0, 1, 0, 0));
        due.is("settled", x.settled(0, 0), 10);
    }

    private void promise15NothingToldIsAlsoTold() {
        AshMetals x = new AshMetals();
        x.batch(1);
        Scenes.tell(x, 0, 0, 0, 0, 0);
        due.is("settled", x.settled(0, 0), 0);
    }

    private void promise15AllOfItToldIsAlsoTold() {
        AshMetals x = new AshMetals();
        x.batch(1);
        Scenes.tell(x, 0, 0, MILLION, MILLION, MILLION);
        due.is("settled", x.settled(0, 0), MILLION);
        due.no("disputed", x.disputed(0, 0));
    }

    private void promise16NotBeforeAllThreeTold() {
        for (int missing = 0; missing < 3; missing++) {
            AshMetals x = new AshMetals();
            x.batch(1);
            Scenes.tell(x, 0, 1, 0, 0, 0);
            due.none("nobody", x.settled(0, 0));
            x.assay(0, (missing + 1) % 3, 0, 5);
            due.none("one", x.settled(0, 0));
            x.assay(0, (missing + 1) % 3, 0, 6);
            x.assay(0, (missing + 1) % 3, 0, 7);
            due.none("one, three times", x.settled(0, 0));
            x.assay(0, (missing + 2) % 3, 0, MILLION);
            due.none("two", x.settled(0, 0));
            due.no("two are not disputed", x.disputed(0, 0));
            due.none("nor is the batch", x.dispute(0));
            x.assay(0, missing, 0, 8);
            due.is("three", x.settled(0, 0), 8);
            due.yes("three are disputed", x.disputed(0, 0));
        }
    }

    private void promise16TheMiddleOneInEveryOrder() {
        int[][] orders = {{0, 1, 2}, {0, 2, 1}, {1, 0, 2}, {1, 2, 0}, {2, 0, 1}, {2, 1, 0}};
        int[] values = {0, 7, MILLION};
        for (int[] order : orders) {
            AshMetals x = new AshMetals();
            x.batch(1);
            Scenes.tell(x, 0, 0, values[order[0]], values[order[1]], values[order[2]]);
            due.is("middle", x.settled(0, 0), 7);
        }
    }

    private void promise16TheMiddleOneWhenTwoAreTheSame() {
        int[][] told = {{4, 4, 9}, {4, 9, 4}, {9, 4, 4}, {4, 4, 1}, {4, 1, 4}, {1, 4, 4}, {4, 4, 4}};
        for (int[] each : told) {
            AshMetals x = new AshMetals();
            x.batch(1);
            Scenes.tell(x, 0, 0, each[0], each[1], each[2]);
            due.is("middle", x.settled(0, 0), 4);
        }
    }

    private void promise16WhatIsDisputedIsSettledToo() {
        AshMetals x = new AshMetals();
        x.batch(1);
        Scenes.tell(x, 0, 0, 0, 3, MILLION);
        due.yes("disputed", x.disputed(0, 0));
        due.is("settled", x.settled(0, 0), 3);
    }

    private void promise17TheToleranceIsFiftyAtFirst() {
        int[][] orders = {{0, 1, 2}, {0, 2, 1}, {1, 0, 2}, {1, 2, 0}, {2, 0, 1}, {2, 1, 0}};
        for (int[] order : orders) {
            due.no("50 above", disputedBy(order, 1000, 1025, 1050));
            due.yes("51 above", disputedBy(order, 1000, 1025, 1051));
            due.yes("51 below", disputedBy(order, 999, 1025, 1050));
            due.no("49 above", disputedBy(order, 1000, 1000, 1049));
        }
    }

    private void promise17TheLeastAndTheGreatestPartsThatThereAre() {
        AshMetals x = new AshMetals();
        x.batch(1);
        Scenes.tell(x, 0, 0, 0, 0, 50);
        due.no("0 .. 50", x.disputed(0, 0));
        Scenes.tell(x, 0, 0, 0, 0, 51);
        due.yes("0 .. 51", x.disputed(0, 0));
        Scenes.tell(x, 0, 0, 999950, MILLION, MILLION);
        due.no("999950 .. 1000000", x.disputed(0, 0));
        Scenes.tell(x, 0, 0, 999949, MILLION, MILLION);
        due.yes("999949 .. 1000000", x.disputed(0, 0));
    }

    private void promise18NoToleranceAtAll() {
        AshMetals x = new AshMetals();
        x.batch(1);
        due.yes("0", x.tolerance(0));
        Scenes.tell(x, 0, 0, 5, 5, 5);
        due.no("all the same", x.disputed(0, 0));
        Scenes.tell(x, 0, 0, 5, 6, 5);
        due.yes("one above", x.disputed(0, 0));
    }

    private void promise18TheGreatestTolerance() {
        AshMetals x = new AshMetals();
        x.batch(1);
        Scenes.tell(x, 0, 0, 0, 0, MILLION);
        due.yes("999999", x.tolerance(999999));
        due.yes("disputed", x.disputed(0, 0));
        due.yes("1000000", x.tolerance(MILLION));
        due.no("no longer", x.disputed(0, 0));
    }

    private void promise18ToleranceCountsForWhatWasToldBefore() {
        AshMetals x = new AshMetals();
        x.batch(1);
        Scenes.tell(x, 0, 0, 0, 0, 20);
        due.no("50", x.disputed(0, 0));
        x.tolerance(19);
        due.yes("19", x.disputed(0, 0));
        x.tolerance(20);
        due.no("20", x.disputed(0, 0));
    }

    // Rules: "the first rule whose metal is settled for it, not disputed, with no more than the limit, and whose age ..".

    private void promise20TheLimitItselfFits() {
        AshMetals x = new AshMetals();
        x.batch(1);
        x.rule(1, 0, 100, 0);
        Scenes.tell(x, 0, 0, 100, 100, 100);
        due.is("100", x.cls(0), 1);
        Scenes.tell(x, 0, 0, 100, 101, 101);
        due.is("101", x.cls(0), 99);
        Scenes.tell(x, 0, 0, 99, 99, 149);
        due.is("it is the middle that counts", x.cls(0), 1);
    }

    private void promise20TheLeastAndTheGreatestLimit() {
        AshMetals x = new AshMetals();
        x.batch(1);
        x.rule(1, 0, 0, 0);
        Scenes.tell(x, 0, 0, 0, 0, 0);
        due.is("0 of 0", x.cls(0), 1);
        Scenes.tell(x, 0, 0, 1, 1, 1);
        due.is("1 of 0", x.cls(0), 99);
        x.rule(2, 0, MILLION, 0);
        Scenes.tell(x, 0, 0, MILLION, MILLION, MILLION);
        due.is("all of all", x.cls(0), 2);
    }

    private void promise20TheLeastAndTheGreatestClass() {
        AshMetals x = new AshMetals();
        x.batch(1);
        x.rule(0, 0, 1, 0);
        x.rule(9, 0, 2, 0);
        Scenes.tell(x, 0, 0, 1, 1, 1);
        due.is("class 0", x.cls(0), 0);
        Scenes.tell(x, 0, 0, 2, 2, 2);
        due.is("class 9", x.cls(0), 9);
        Scenes.tell(x, 0, 0, 3, 3, 3);
        due.is("none", x.cls(0), 99);
    }

    private void promise20NotSettledDoesNotFit() {
        AshMetals x = new AshMetals();
        x.batch(1);
        x.rule(4, 2, MILLION, 0);
        due.is("nobody told", x.cls(0), 99);
        x.assay(0, 0, 2, 0);
        x.assay(0, 2, 2, 0);
        due.is("two told", x.cls(0), 99);
        Scenes.tell(x, 0, 1, 0, 0, 0);
        due.is("another metal", x.cls(0), 99);
        x.assay(0, 1, 2, 0);
        due.is("three told", x.cls(0), 4);
    }

    private void promise20DisputedDoesNotFit() {
        AshMetals x = new AshMetals();
        x.batch(1);
        x.rule(4, 2, MILLION, 0);
        Scenes.tell(x, 0, 2, 0, 0, 51);
        due.is("51 above", x.cls(0), 99);
        x.assay(0, 2, 2, 50);
        due.is("50 above", x.cls(0), 4);
        Scenes.tell(x, 0, 1, 0, 0, MILLION);
        due.is("another metal is disputed", x.cls(0), 4);
    }

    private void promise20TheFirstThatFitsIsTaken() {
        AshMetals x = new AshMetals();
        x.batch(1);
        Scenes.tell(x, 0, 0, 10, 10, 10);
        x.rule(1, 0, 9, 0);
        x.rule(2, 0, 10, 1);
        x.rule(3, 1, 10, 0);
        x.rule(4, 0, 10, 0);
        x.rule(5, 0, 11, 0);
        due.is("the fourth", x.cls(0), 4);
        x.today(1);
        due.is("a day later the second", x.cls(0), 2);
    }

    private void promise20ARuleOfLaterCountsForBatchesOfBefore() {
        AshMetals x = new AshMetals();
        x.batch(1);
        Scenes.tell(x, 0, 0, 0, 0, 0);
        due.is("none", x.cls(0), 99);
        x.rule(7, 0, 0, 0);
        due.is("then", x.cls(0), 7);
    }

    // Mixes: "gone; grams and amounts together, the later day of both, no assays, and was run when both were".

    private void promise21TheLaterDayOfBothInBothOrders() {
        for (int first = 0; first < 2; first++) {
            AshMetals x = new AshMetals();
            x.today(5);
            x.batch(1);
            x.today(6);
            x.batch(1);
            x.today(20);
            due.is("mix", x.mix(first, 1 - first), 2);
            Scenes.tell(x, 2, 0, 0, 0, 0);
            x.rule(1, 0, 0, 15);
            due.is("15 days is too old", x.cls(2), 99);
            x.rule(2, 0, 0, 14);
            due.is("14 days", x.cls(2), 2);
        }
    }

    private void promise21TheSmallestMix() {
        AshMetals x = new AshMetals();
        x.batch(1);
        x.batch(1);
        due.is("mix", x.mix(0, 1), 2);
        due.is("grams", x.grams(2), 2);
        due.is("left", x.left(2, 0), 0);
    }

    private void promise21AMixOfBatchesWithoutGrams() {
        AshMetals x = new AshMetals();
        x.stage(0, 1000, 0);
        for (int batch = 0; batch < 2; batch++) {
            x.batch(1);
            x.parts(batch, 0, MILLION);
            x.run(batch);
        }
        due.is("mix", x.mix(0, 1), 2);
        due.is("grams", x.grams(2), 0);
        due.is("left", x.left(2, 0), 0);
        due.none("was run", x.run(2));
        due.none("not by itself", x.taken(2, 0, 0));
    }

    private void promise21NoAssaysEvenWhenBothHadThem() {
        AshMetals x = new AshMetals();
        x.batch(1);
        x.batch(1);
        Scenes.tell(x, 0, 0, 0, 0, MILLION);
        Scenes.tell(x, 1, 0, 0, 0, MILLION);
        x.mix(0, 1);
        due.none("settled", x.settled(2, 0));
        due.no("disputed", x.disputed(2, 0));
        due.none("dispute", x.dispute(0));
        x.assay(2, 0, 0, 1);
        x.assay(2, 1, 0, 1);
        due.none("two told", x.settled(2, 0));
        x.assay(2, 2, 0, 1);
        due.is("three told", x.settled(2, 0), 1);
    }

    private void promise21NeitherWasRunSoItCanBe() {
        AshMetals x = new AshMetals();
        x.stage(0, 1000, 0);
        x.batch(1);
        x.batch(2);
        x.parts(0, 0, MILLION);
        x.parts(1, 0, MILLION);
        x.mix(0, 1);
        due.none("not run yet", x.taken(2, 0, 0));
        due.is("run", x.run(2), 1);
        due.is("taken", x.taken(2, 0, 0), 3000000);
        due.is("grams", x.grams(2), 0);
        due.none("once", x.run(2));
    }

    private void promise21AMixedOneMayBeMixedAgain() {
        AshMetals x = new AshMetals();
        x.batch(1);
        x.batch(2);
        x.batch(4);
        due.is("two", x.mix(0, 1), 3);
        due.is("and one", x.mix(3, 2), 4);
        due.is("grams", x.grams(4), 7);
        due.none("gone", x.cls(3));
        due.none("gone", x.mix(3, 4));
    }

    private void promise21WhatIsGoneStillTells() {
        AshMetals x = withMetal(5, 0, MILLION);
        x.stage(0, 200, 0);
        x.price(0, 0, 1);
        Scenes.tell(x, 0, 0, 0, 7, 100);
        x.run(0);
        x.batch(1);
        x.run(1);
        x.mix(0, 1);
        due.is("grams", x.grams(0), 4);
        due.is("left", x.left(0, 0), 4000000);
        due.is("worth", x.worth(0, 0), 4);
        due.is("taken", x.taken(0, 0, 0), 1000000);
        due.is("settled", x.settled(0, 0), 7);
        due.none("cls", x.cls(0));
        due.none("dispute", x.dispute(0));
    }

    // Disputes: "the k-th batch, by numbers, that is not gone and of which some metal is disputed".

    private void promise22EachMetalByItselfMakesADispute() {
        for (int metal = 0; metal < METALS; metal++) {
            AshMetals x = new AshMetals();
            x.batch(1);
            x.batch(1);
            Scenes.tell(x, 1, metal, 0, 0, 50);
            due.none("50 above", x.dispute(0));
            Scenes.tell(x, 1, metal, 0, 0, 51);
            due.is("51 above", x.dispute(0), 1);
            due.none("no second", x.dispute(1));
        }
    }

    private void promise22ABatchOfSeveralDisputedMetalsCountsOnce() {
        AshMetals x = new AshMetals();
        x.batch(1);
        x.batch(1);
        for (int metal = 0; metal < METALS; metal++) {
            Scenes.tell(x, 0, metal, 0, 0, 51);
        }
        Scenes.tell(x, 1, 3, 0, 0, 51);
        due.is("first", x.dispute(0), 0);
        due.is("second", x.dispute(1), 1);
        due.none("third", x.dispute(2));
    }

    private void promise22GoneOnesAndUndisputedOnesArePassedOver() {
        AshMetals x = new AshMetals();
        for (int batch = 0; batch < 6; batch++) {
            x.batch(1);
            Scenes.tell(x, batch, 0, 0, 0, batch == 3 ? 50 : 51);
        }
        x.mix(0, 4);
        due.is("first", x.dispute(0), 1);
        due.is("second", x.dispute(1), 2);
        due.is("third", x.dispute(2), 5);
        due.none("fourth", x.dispute(3));
        due.none("before the first", x.dispute(-1));
    }

    private void promise22ADisputeEndsWhenALabTellsAgain() {
        AshMetals x = new AshMetals();
        x.batch(1);
        Scenes.tell(x, 0, 0, 0, 0, 51);
        due.is("disputed", x.dispute(0), 0);
        x.assay(0, 2, 0, 50);
        due.none("no longer", x.dispute(0));
    }

    /** What a stage of so many thousandths takes of an amount below a gram. */
    private static long takenOf(int amount, int thousandths) {
        AshMetals x = withMetal(1, 0, amount);
        x.stage(0, thousandths, 0);
        x.run(0);
        return x.taken(0, 0, 0);
    }

    private static long soldFor(int amount, int cents) {
        AshMetals x = withMetal(1, 0, amount);
        x.stage(0, 1000, 0);
        x.price(0, 0, cents);
        x.run(0);
        return x.sell(0);
    }

    private static boolean disputedBy(int[] order, int... told) {
        AshMetals x = new AshMetals();
        x.batch(1);
        Scenes.tell(x, 0, 0, told[order[0]], told[order[1]], told[order[2]]);
        return x.disputed(0, 0);
    }

    private static AshMetals withMetal(long grams, int metal, int parts) {
        AshMetals x = new AshMetals();
        x.batch(grams);
        x.parts(0, metal, parts);
        return x;
    }

    /** A batch that is nothing but metal, four times over, run through one stage. */
    private static AshMetals fullBatch(long grams, int own, int thousandths, int drags) {
        AshMetals x = new AshMetals();
        x.batch(grams);
        for (int metal = 0; metal < METALS; metal++) {
            x.parts(0, metal, MILLION);
        }
        x.stage(own, thousandths, drags);
        x.run(0);
        return x;
    }
}
