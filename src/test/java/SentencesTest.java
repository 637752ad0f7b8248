/**
 * The sentences of the document that the other tests only touch in passing, in the document's order, each named
 * above its tests: mostly that things go in their order, and that each batch, stage, metal and lab is by itself.
 */
public final class SentencesTest {
    private static final int BATCHES = 8;
    private static final int STAGES = 6;
    private static final int METALS = 4;
    private static final int LABS = 3;
    private static final int MILLION = 1000000;

    private final Due due = new Due();

    public static void main(String[] args) {
        SentencesTest test = new SentencesTest();
        test.due.runAll(test);
    }

    // "BATCHES are numbered from 0 on .. each of GRAMS, made on a DAY, with AMOUNTS of each metal".

    private void termsBatchesMadeAndMixedAreNumberedInOneRow() {
        AshMetals x = new AshMetals();
        due.is("made", x.batch(1), 0);
        due.is("made", x.batch(2), 1);
        due.is("mixed", x.mix(0, 1), 2);
        due.is("made", x.batch(4), 3);
        due.is("mixed", x.mix(3, 2), 4);
        due.is("made", x.batch(8), 5);
        long[] grams = {1, 2, 3, 4, 7, 8};
        for (int batch = 0; batch < grams.length; batch++) {
            due.is("grams " + batch, x.grams(batch), grams[batch]);
        }
    }

    private void termsEachBatchHasAmountsOfItsOwnOfEachMetal() {
        AshMetals x = new AshMetals();
        for (int batch = 0; batch < BATCHES; batch++) {
            x.batch(batch + 1);
            for (int metal = 0; metal < METALS; metal++) {
                x.parts(batch, metal, 100 * batch + metal + 1);
            }
        }
        for (int batch = 0; batch < BATCHES; batch++) {
            for (int metal = 0; metal < METALS; metal++) {
                long amount = (batch + 1L) * (100 * batch + metal + 1);
                due.is("left " + batch + ", " + metal, x.left(batch, metal), amount);
            }
        }
    }

    private void termsEachBatchHasADayOfItsOwn() {
        AshMetals x = new AshMetals();
        x.rule(1, 0, 0, 20);
        x.rule(2, 0, 0, 10);
        for (int batch = 0; batch < 3; batch++) {
            x.today(10 * batch);
            x.batch(1);
            Scenes.tell(x, batch, 0, 0, 0, 0);
        }
        due.is("20 days", x.cls(0), 1);
        due.is("10 days", x.cls(1), 2);
        due.is("of today", x.cls(2), 99);
    }

    private void termsTheDayOfABatchDoesNotChangeWhenItIsRunOrAssayed() {
        AshMetals x = new AshMetals();
        x.stage(0, 1, 1);
        x.rule(1, 0, 0, 10);
        x.batch(1);
        x.today(10);
        x.parts(0, 0, 5);
        x.run(0);
        Scenes.tell(x, 0, 0, 0, 0, 0);
        due.is("10 days", x.cls(0), 1);
    }

    // "STAGES are numbered from 0 on .. each takes of one metal, its OWN, .. and DRAGS .. of each other metal".

    private void termsEveryMetalCanBeAStagesOwn() {
        for (int own = 0; own < METALS; own++) {
            AshMetals x = new AshMetals();
            x.stage(own, 700, 20);
            fullBatch(x, 1);
            x.run(0);
            for (int metal = 0; metal < METALS; metal++) {
                due.is("taken " + own + ", " + metal, x.taken(0, 0, metal), metal == own ? 700000 : 20000);
            }
        }
    }

    private void termsEachStageHasThousandthsOfItsOwn() {
        AshMetals x = new AshMetals();
        for (int stage = 0; stage < STAGES; stage++) {
            x.stage(stage % METALS, 100 * stage, 10 * stage);
        }
        fullBatch(x, 1);
        x.run(0);
        long[] left = {MILLION, MILLION, MILLION, MILLION};
        for (int stage = 0; stage < STAGES; stage++) {
            for (int metal = 0; metal < METALS; metal++) {
                long part = left[metal] * (metal == stage % METALS ? 100 * stage : 10 * stage) / 1000;
                left[metal] -= part;
                due.is("taken " + stage + ", " + metal, x.taken(0, stage, metal), part);
            }
        }
    }

    // "A batch goes through all stages that there are, in their order, when it is RUN, once".

    private void termsTheStagesComeInTheirOrder() {
        AshMetals x = new AshMetals();
        x.stage(0, 1000, 0);
        x.stage(1, 0, 1000);
        fullBatch(x, 1);
        x.run(0);
        due.is("the first takes all of its own", x.taken(0, 0, 0), MILLION);
        due.is("the second finds none of it", x.taken(0, 1, 0), 0);
        AshMetals y = new AshMetals();
        y.stage(1, 0, 1000);
        y.stage(0, 1000, 0);
        fullBatch(y, 1);
        y.run(0);
        due.is("the first drags all of it", y.taken(0, 0, 0), MILLION);
        due.is("the second finds none of its own", y.taken(0, 1, 0), 0);
    }

    private void promise6AnswersHowManyStagesThereAre() {
        AshMetals x = new AshMetals();
        for (int stages = 0; stages <= STAGES; stages++) {
            int batch = x.batch(1);
            due.is("run through " + stages, x.run(batch), stages);
            x.stage(0, 1, 1);
        }
    }

    private void promise6ABatchGoesThroughTheStagesOfItsRunAlone() {
        AshMetals x = new AshMetals();
        for (int stages = 0; stages <= STAGES; stages++) {
            x.run(x.batch(1));
            x.stage(0, 1, 1);
        }
        for (int batch = 0; batch <= STAGES; batch++) {
            for (int stage = 0; stage < STAGES; stage++) {
                due.is("taken " + batch + ", " + stage, x.taken(batch, stage, 0), stage < batch ? 0 : -1);
            }
        }
    }

    private void promise6StagesMadeBeforeAndAfterTheBatchBothTake() {
        AshMetals x = new AshMetals();
        x.stage(0, 500, 0);
        fullBatch(x, 1);
        x.stage(0, 500, 0);
        due.is("run", x.run(0), 2);
        due.is("made before", x.taken(0, 0, 0), 500000);
        due.is("made after", x.taken(0, 1, 0), 250000);
    }

    private void promise6ARunOfOneBatchLeavesTheOthersAsTheyAre() {
        AshMetals x = new AshMetals();
        x.stage(0, 1000, 1000);
        fullBatch(x, 3);
        fullBatch(x, 3);
        x.run(1);
        due.is("left", x.left(0, 0), 3000000);
        due.is("grams", x.grams(0), 3);
        due.none("not run", x.taken(0, 0, 0));
        due.is("can be run", x.run(0), 1);
    }

    // "what is taken of it comes to the stage's STOCK".

    private void termsAllThatIsTakenComesToTheStock() {
        AshMetals x = fourBatchesThroughThreeStages();
        for (int stage = 0; stage < 3; stage++) {
            for (int metal = 0; metal < METALS; metal++) {
                long all = 0;
                for (int batch = 0; batch < 4; batch++) {
                    all += x.taken(batch, stage, metal);
                }
                due.is("stock " + stage + ", " + metal, x.stock(stage, metal), all);
            }
        }
    }

    private void termsWhatIsTakenAndWhatIsLeftAreWhatThereWas() {
        AshMetals x = fourBatchesThroughThreeStages();
        for (int batch = 0; batch < 4; batch++) {
            for (int metal = 0; metal < METALS; metal++) {
                long all = x.left(batch, metal);
                for (int stage = 0; stage < 3; stage++) {
                    all += x.taken(batch, stage, metal);
                }
                due.is("amount " + batch + ", " + metal, all, gramsOf(batch) * partsOf(batch, metal));
            }
        }
    }

    private void promise7WhatWasTakenOfABatchDoesNotChange() {
        AshMetals x = new AshMetals();
        x.stage(0, 500, 100);
        fullBatch(x, 1);
        fullBatch(x, 7);
        x.run(0);
        x.run(1);
        x.sell(0);
        x.stage(0, 900, 900);
        x.mix(0, 1);
        due.is("own of the first", x.taken(0, 0, 0), 500000);
        due.is("dragged of the first", x.taken(0, 0, 3), 100000);
        due.is("own of the second", x.taken(1, 0, 0), 3500000);
        due.is("dragged of the second", x.taken(1, 0, 3), 700000);
    }

    // "ASSAYS: three LABS, 0 .. 2, tell parts of a metal in a batch; told again it is that."

    private void termsEachMetalOfEachBatchIsAssayedByItself() {
        AshMetals x = new AshMetals();
        for (int batch = 0; batch < BATCHES; batch++) {
            x.batch(1);
            for (int metal = 0; metal < METALS; metal++) {
                int middle = 1000 * batch + 100 * metal + 50;
                Scenes.tell(x, batch, metal, middle + metal, middle - batch, middle);
            }
        }
        for (int batch = 0; batch < BATCHES; batch++) {
            for (int metal = 0; metal < METALS; metal++) {
                due.is("settled " + batch + ", " + metal, x.settled(batch, metal), 1000 * batch + 100 * metal + 50);
            }
        }
    }

    private void termsEachMetalOfEachBatchIsDisputedByItself() {
        for (int batch = 0; batch < 3; batch++) {
            for (int metal = 0; metal < METALS; metal++) {
                AshMetals x = new AshMetals();
                tellAllOfThreeBatches(x, 500);
                x.assay(batch, 1, metal, 551);
                for (int i = 0; i < 3 * METALS; i++) {
                    boolean it = i / METALS == batch && i % METALS == metal;
                    due.is("disputed " + i / METALS + ", " + i % METALS, x.disputed(i / METALS, i % METALS), it);
                }
                due.is("dispute", x.dispute(0), batch);
                due.none("no second", x.dispute(1));
            }
        }
    }

    private void termsEveryLabMayTellAgain() {
        for (int lab = 0; lab < LABS; lab++) {
            AshMetals x = new AshMetals();
            tellAllOfThreeBatches(x, 500);
            x.assay(1, lab, 2, 499);
            due.is("one of three", x.settled(1, 2), 500);
            x.assay(1, (lab + 1) % LABS, 2, 499);
            due.is("two of three", x.settled(1, 2), 499);
            x.assay(1, lab, 2, 501);
            due.is("one back", x.settled(1, 2), 500);
            due.is("another metal", x.settled(1, 1), 500);
            due.is("another batch", x.settled(0, 2), 500);
        }
    }

    private void termsWhatIsAssayedAndWhatIsThereAreNotTheSame() {
        AshMetals x = new AshMetals();
        x.batch(1);
        x.parts(0, 0, 7);
        due.none("parts tell nothing", x.settled(0, 0));
        Scenes.tell(x, 0, 0, 90, 90, 90);
        due.is("assays put nothing in", x.left(0, 0), 7);
        x.parts(0, 0, 8);
        due.is("parts change no assay", x.settled(0, 0), 90);
        x.stage(0, 1000, 0);
        x.run(0);
        due.is("nor does a run", x.settled(0, 0), 90);
    }

    // "A batch's class is that of the first rule whose ..".

    private void termsTheSameRulesClassEachBatchByItself() {
        AshMetals x = new AshMetals();
        x.rule(5, 0, 10, 0);
        x.rule(6, 1, 10, 0);
        x.rule(7, 2, 10, 0);
        x.rule(8, 3, 10, 0);
        for (int batch = 0; batch < METALS; batch++) {
            x.batch(1);
            Scenes.tell(x, batch, batch, 10, 10, 10);
        }
        x.batch(1);
        for (int batch = 0; batch < METALS; batch++) {
            due.is("class of " + batch, x.cls(batch), 5 + batch);
        }
        due.is("of what nobody told", x.cls(METALS), 99);
    }

    private void termsEveryClassIsAnswered() {
        for (int cls = 0; cls <= 9; cls++) {
            AshMetals x = new AshMetals();
            x.rule(cls, 1, 0, 0);
            x.batch(1);
            Scenes.tell(x, 0, 1, 0, 0, 0);
            due.is("class", x.cls(0), cls);
        }
    }

    private void termsOneRuleMustFitInAllThatItAsks() {
        AshMetals x = new AshMetals();
        x.rule(1, 0, 10, 5);
        x.rule(2, 1, 20, 0);
        x.batch(1);
        Scenes.tell(x, 0, 0, 10, 10, 10);
        Scenes.tell(x, 0, 1, 21, 21, 21);
        due.is("the first is too old, the second too low", x.cls(0), 99);
        x.today(5);
        due.is("the first fits", x.cls(0), 1);
        Scenes.tell(x, 0, 0, 11, 11, 11);
        due.is("the first is too low", x.cls(0), 99);
        Scenes.tell(x, 0, 1, 20, 20, 20);
        due.is("the second fits", x.cls(0), 2);
    }

    private void termsAClassIsThatOfNowAndNotKept() {
        AshMetals x = new AshMetals();
        x.rule(1, 0, 10, 0);
        x.batch(1);
        Scenes.tell(x, 0, 0, 10, 10, 10);
        due.is("fits", x.cls(0), 1);
        Scenes.tell(x, 0, 0, 11, 11, 11);
        due.is("no longer", x.cls(0), 99);
        x.rule(2, 0, 11, 0);
        due.is("another", x.cls(0), 2);
    }

    // "PRICES of a metal: cents a gram from a day on".

    private void termsEachMetalHasPricesOfItsOwn() {
        AshMetals x = new AshMetals();
        for (int metal = 0; metal < METALS; metal++) {
            x.price(metal, metal, 10 + metal);
            x.price(metal, 50 + metal, 100 + metal);
            x.batch(1);
            x.parts(metal, metal, MILLION);
        }
        for (int metal = 0; metal < METALS; metal++) {
            due.is("before the second: " + metal, x.worth(metal, 49 + metal), 10 + metal);
            due.is("from the second on: " + metal, x.worth(metal, 50 + metal), 100 + metal);
        }
    }

    private void termsOfSixPricesThatOfTheDayCounts() {
        AshMetals x = new AshMetals();
        x.batch(1);
        x.parts(0, 2, MILLION);
        int[] cents = {60, 10, 50, 0, 40, 30};
        for (int i = 0; i < cents.length; i++) {
            x.price(2, 3 * i + 1, cents[i]);
        }
        due.is("before all", x.worth(0, 0), 0);
        for (int day = 1; day < 25; day++) {
            due.is("on day " + day, x.worth(0, day), cents[Math.min((day - 1) / 3, cents.length - 1)]);
        }
    }

    private void promise12WorthIsThatOfTheDayAskedNotOfToday() {
        AshMetals x = new AshMetals();
        x.batch(1);
        x.parts(0, 0, MILLION);
        x.price(0, 5, 1);
        x.price(0, 10, 2);
        x.price(0, 15, 3);
        x.today(10);
        due.is("a day gone by", x.worth(0, 5), 1);
        due.is("today", x.worth(0, 10), 2);
        due.is("a day to come", x.worth(0, 15), 3);
    }

    private void promise12WorthIsOfWhatIsLeft() {
        AshMetals x = new AshMetals();
        x.price(0, 0, 10);
        x.price(1, 0, 1000);
        x.batch(10);
        due.is("without metals", x.worth(0, 0), 0);
        x.parts(0, 0, MILLION);
        x.parts(0, 1, 500000);
        due.is("before the run", x.worth(0, 0), 5100);
        x.stage(1, 800, 100);
        x.run(0);
        due.is("behind it", x.worth(0, 0), 1090);
    }

    // "comes to the money; the stock is nothing then", and "All cents of sales".

    private void promise13AStockFillsAgainBehindASale() {
        AshMetals x = new AshMetals();
        x.stage(0, 1000, 0);
        x.price(0, 0, 3);
        fullBatch(x, 5);
        fullBatch(x, 7);
        x.run(0);
        due.is("first sale", x.sell(0), 15);
        x.run(1);
        due.is("stock", x.stock(0, 0), 7000000);
        due.is("second sale", x.sell(0), 21);
        due.is("money", x.money(), 36);
    }

    private void promise13SellDoesNotAskWhoseAshItWas() {
        AshMetals x = new AshMetals();
        x.stage(0, 1000, 0);
        x.price(0, 0, 1);
        fullBatch(x, 2);
        fullBatch(x, 3);
        x.run(0);
        x.run(1);
        x.mix(0, 1);
        due.is("sell", x.sell(0), 5);
        due.is("what is gone keeps its takings", x.taken(0, 0, 0), 2000000);
    }

    private void promise14MoneyIsWhatAllSalesAnswered() {
        AshMetals x = fourBatchesThroughThreeStages();
        for (int metal = 0; metal < METALS; metal++) {
            x.price(metal, 0, 7 + metal);
            x.price(metal, 10, 70 + metal);
        }
        long all = x.sell(1);
        x.today(10);
        all += x.sell(0);
        all += x.sell(2);
        due.yes("there were sales", all > 0);
        due.is("money", x.money(), all);
    }

    private void promise14MoneyOfASaleDoesNotChange() {
        AshMetals x = new AshMetals();
        x.stage(0, 1000, 0);
        x.price(0, 0, 4);
        fullBatch(x, 1);
        x.run(0);
        x.sell(0);
        x.price(0, 1, 900);
        x.today(1);
        due.is("money", x.money(), 4);
        due.is("nothing is there to sell", x.sell(0), 0);
        due.is("money", x.money(), 4);
    }

    // "Batches that were MIXED are GONE; the mixed one has their grams and amounts together ..".

    private void termsBothThatWereMixedAreGone() {
        AshMetals x = new AshMetals();
        x.batch(1);
        x.batch(1);
        x.batch(1);
        Scenes.tell(x, 0, 0, 0, 0, 51);
        Scenes.tell(x, 1, 0, 0, 0, 51);
        x.mix(0, 1);
        for (int batch = 0; batch < 2; batch++) {
            due.no("parts " + batch, x.parts(batch, 0, 1));
            due.none("run " + batch, x.run(batch));
            due.no("assay " + batch, x.assay(batch, 0, 0, 1));
            due.none("cls " + batch, x.cls(batch));
            due.none("mix " + batch, x.mix(batch, 2));
            due.none("mix " + batch, x.mix(2, batch));
            due.none("dispute " + batch, x.dispute(batch));
        }
    }

    private void termsNoOtherBatchIsGone() {
        AshMetals x = new AshMetals();
        x.batch(1);
        x.batch(1);
        x.batch(1);
        x.mix(0, 2);
        due.yes("parts", x.parts(1, 0, 1));
        due.yes("assay", x.assay(1, 0, 0, 1));
        due.is("cls", x.cls(1), 99);
        due.is("cls of the mixed one", x.cls(3), 99);
        due.is("mix", x.mix(1, 3), 4);
    }

    private void termsWhatTheMixedOneMeetsDoesNotReachThoseThatAreGone() {
        AshMetals x = new AshMetals();
        x.stage(0, 1000, 1000);
        fullBatch(x, 2);
        fullBatch(x, 3);
        Scenes.tell(x, 0, 0, 1, 2, 3);
        x.mix(0, 1);
        x.run(2);
        Scenes.tell(x, 2, 0, 7, 8, 9);
        for (int batch = 0; batch < 2; batch++) {
            due.is("grams " + batch, x.grams(batch), 2 + batch);
            due.is("left " + batch, x.left(batch, 3), (2 + batch) * 1000000L);
            due.none("taken " + batch, x.taken(batch, 0, 0));
        }
        due.is("settled of the gone one", x.settled(0, 0), 2);
        due.is("settled of the mixed one", x.settled(2, 0), 8);
    }

    private void termsAMixTakesWhatIsLeftOfRunOnes() {
        AshMetals x = new AshMetals();
        x.stage(0, 500, 0);
        fullBatch(x, 4);
        fullBatch(x, 6);
        x.run(0);
        x.run(1);
        due.is("mix", x.mix(0, 1), 2);
        due.is("grams", x.grams(2), 5);
        due.is("own", x.left(2, 0), 5000000);
        due.is("others", x.left(2, 1), 10000000);
    }

    private void termsAMixIsAsOldAsTheYoungerNotAsToday() {
        AshMetals x = new AshMetals();
        x.batch(1);
        x.today(3);
        x.batch(1);
        x.today(100);
        x.mix(0, 1);
        x.rule(1, 0, 0, 98);
        x.rule(2, 0, 0, 97);
        Scenes.tell(x, 2, 0, 0, 0, 0);
        due.is("97 days", x.cls(2), 2);
    }

    private void termsAMixOfMixedOnesOfWhichOneWasRun() {
        AshMetals x = new AshMetals();
        for (int batch = 0; batch < 4; batch++) {
            x.batch(1);
        }
        x.run(0);
        x.run(1);
        due.is("of run ones", x.mix(0, 1), 4);
        due.is("of others", x.mix(2, 3), 5);
        due.none("just one was run", x.mix(4, 5));
        due.none("just one was run", x.mix(5, 4));
        due.is("the other is run", x.run(5), 0);
        due.is("both were", x.mix(5, 4), 6);
        due.none("so was it", x.run(6));
    }

    private void promise7AMixedOneWasRunByItselfOnlyWhenItWasRun() {
        AshMetals x = new AshMetals();
        x.stage(0, 500, 500);
        for (int batch = 0; batch < 4; batch++) {
            fullBatch(x, 1);
        }
        x.run(0);
        x.run(1);
        x.mix(0, 1);
        x.mix(2, 3);
        x.run(5);
        due.none("its origins were run", x.taken(4, 0, 0));
        due.is("it was run", x.taken(5, 0, 0), 1000000);
        x.mix(4, 5);
        due.none("its origins were run", x.taken(6, 0, 0));
        due.is("gone, but it was run", x.taken(5, 0, 0), 1000000);
    }

    // "Whether it is disputed", and "the k-th batch .. that is not gone and of which some metal is disputed".

    private void promise17ABatchThatIsGoneIsStillDisputed() {
        AshMetals x = new AshMetals();
        x.batch(1);
        x.batch(1);
        Scenes.tell(x, 0, 0, 0, 5, 51);
        x.mix(0, 1);
        due.yes("disputed", x.disputed(0, 0));
        due.is("settled", x.settled(0, 0), 5);
        due.none("but no batch that is there", x.dispute(0));
        x.tolerance(51);
        due.no("by the tolerance of now", x.disputed(0, 0));
    }

    private void promise22ABatchThatWasRunOrMixedIsCountedToo() {
        AshMetals x = new AshMetals();
        x.batch(1);
        x.batch(1);
        x.batch(1);
        x.run(2);
        x.mix(0, 1);
        Scenes.tell(x, 3, 1, 0, 51, 0);
        Scenes.tell(x, 2, 1, 51, 0, 0);
        due.is("run", x.dispute(0), 2);
        due.is("mixed", x.dispute(1), 3);
        due.none("no third", x.dispute(2));
    }

    // The example of README.md.

    private void readmeExample() {
        AshMetals ash = new AshMetals();
        int batch = ash.batch(1000);
        due.is("batch", batch, 0);
        due.yes("parts", ash.parts(batch, 0, 250000));
        int stage = ash.stage(0, 900, 10);
        due.is("stage", stage, 0);
        due.is("run", ash.run(batch), 1);
        due.is("taken", ash.taken(batch, stage, 0), 225000000);
        due.is("left", ash.left(batch, 0), 25000000);
        due.is("grams", ash.grams(batch), 775);
        due.yes("price", ash.price(0, 0, 40));
        due.is("worth", ash.worth(batch, 0), 1000);
        due.is("sell", ash.sell(stage), 9000);
        due.is("money", ash.money(), 9000);
        due.yes("assay", ash.assay(batch, 0, 0, 25000));
        due.yes("assay", ash.assay(batch, 1, 0, 25040));
        due.yes("assay", ash.assay(batch, 2, 0, 25010));
        due.is("settled", ash.settled(batch, 0), 25010);
        due.no("disputed", ash.disputed(batch, 0));
        due.is("rule", ash.rule(3, 0, 30000, 7), 0);
        due.is("cls", ash.cls(batch), 99);
        due.yes("today", ash.today(7));
        due.is("cls", ash.cls(batch), 3);
        due.yes("tolerance", ash.tolerance(39));
        due.is("dispute", ash.dispute(0), 0);
        due.is("other", ash.batch(500), 1);
        due.none("mix", ash.mix(batch, 1));
        due.is("run", ash.run(1), 1);
        due.is("mix", ash.mix(batch, 1), 2);
    }

    /** One more batch that is nothing but metal, four times over. */
    private static void fullBatch(AshMetals x, long grams) {
        int batch = x.batch(grams);
        for (int metal = 0; metal < METALS; metal++) {
            x.parts(batch, metal, MILLION);
        }
    }

    private static long gramsOf(int batch) {
        return 12345L * (batch + 1) + batch;
    }

    private static int partsOf(int batch, int metal) {
        return 98765 * (metal + 1) + 4321 * batch;
    }

    private static AshMetals fourBatchesThroughThreeStages() {
        AshMetals x = new AshMetals();
        x.stage(2, 613, 17);
        x.stage(0, 377, 29);
        x.stage(3, 911, 3);
        for (int batch = 0; batch < 4; batch++) {
            x.batch(gramsOf(batch));
            for (int metal = 0; metal < METALS; metal++) {
                x.parts(batch, metal, partsOf(batch, metal));
            }
            x.run(batch);
        }
        return x;
    }

    private static void tellAllOfThreeBatches(AshMetals x, int parts) {
        for (int batch = 0; batch < 3; batch++) {
            x.batch(1);
            for (int metal = 0; metal < METALS; metal++) {
                Scenes.tell(x, batch, metal, parts, parts, parts);
            }
        }
    }
}
