/** Each promise of the document: ordinary inputs, the edges that it names, and wrong inputs. */
public final class PromisesTest {
    private static final int[] WRONG_METALS = {-1, 4, Integer.MIN_VALUE, Integer.MAX_VALUE};
    private static final int[] WRONG_NUMBERS = {-1, 8, 6, Integer.MIN_VALUE, Integer.MAX_VALUE};
    private static final int[] WRONG_PARTS = {-1, 1000001, Integer.MIN_VALUE, Integer.MAX_VALUE};
    private static final int[] WRONG_DAYS = {-1, 100001, Integer.MIN_VALUE, Integer.MAX_VALUE};

    private final Due due = new Due();

    public static void main(String[] args) {
        PromisesTest test = new PromisesTest();
        test.due.runAll(test);
    }

    private void promise1NewObject() {
        AshMetals x = new AshMetals();
        due.none("p1 no batch", x.grams(0));
        due.none("p1 no stage", x.stock(0, 0));
        due.is("p1 no money", x.money(), 0);
        due.none("p1 nothing disputed", x.dispute(0));
        due.is("p1 first batch", x.batch(5), 0);
        due.is("p1 no rules", x.cls(0), 99);
        due.yes("p1 parts", x.parts(0, 0, 1000000));
        due.is("p1 no prices", x.worth(0, 100000), 0);
        due.is("p1 no stages", x.run(0), 0);
        due.is("p1 first stage", x.stage(0, 1, 1), 0);
        due.is("p1 first rule", x.rule(0, 0, 0, 0), 0);
        due.yes("p1 today is 0", x.today(0));
        AshMetals other = new AshMetals();
        due.none("p1 objects share nothing", other.grams(0));
    }

    private void promise2Batch() {
        AshMetals x = new AshMetals();
        long[] wrong = {0, -1, 1000000001L, Long.MIN_VALUE, Long.MAX_VALUE, 1L << 32};
        for (long grams : wrong) {
            due.none("p2 batch(" + grams + ")", x.batch(grams));
        }
        due.is("p2 least", x.batch(1), 0);
        due.is("p2 most", x.batch(1000000000L), 1);
        due.is("p2 grams", x.grams(0), 1);
        due.is("p2 grams", x.grams(1), 1000000000L);
        for (int metal = 0; metal < 4; metal++) {
            due.is("p2 without metals", x.left(1, metal), 0);
        }
        for (int i = 2; i < 8; i++) {
            due.is("p2 number", x.batch(i), i);
        }
        due.none("p2 ninth", x.batch(1));
        due.none("p2 ninth is not kept", x.grams(8));
    }

    private void promise3Parts() {
        AshMetals x = new AshMetals();
        x.batch(7);
        due.yes("p3 parts", x.parts(0, 1, 142857));
        due.is("p3 amount", x.left(0, 1), 999999);
        due.yes("p3 again", x.parts(0, 1, 2));
        due.is("p3 becomes, not comes to", x.left(0, 1), 14);
        due.yes("p3 most", x.parts(0, 3, 1000000));
        due.is("p3 most", x.left(0, 3), 7000000);
        due.yes("p3 least", x.parts(0, 3, 0));
        due.is("p3 least", x.left(0, 3), 0);
        for (int parts : WRONG_PARTS) {
            due.no("p3 parts " + parts, x.parts(0, 1, parts));
        }
        for (int metal : WRONG_METALS) {
            due.no("p3 metal " + metal, x.parts(0, metal, 1));
        }
        for (int batch : WRONG_NUMBERS) {
            due.no("p3 batch " + batch, x.parts(batch, 1, 1));
        }
        due.is("p3 refused changes nothing", x.left(0, 1), 14);
        x.batch(2);
        x.mix(0, 1);
        due.no("p3 gone", x.parts(0, 1, 1));
        due.no("p3 mixed", x.parts(2, 1, 1));
        due.is("p3 mixed keeps", x.left(2, 1), 14);
        x.batch(3);
        x.run(3);
        due.no("p3 was run", x.parts(3, 1, 1));
        due.is("p3 was run keeps", x.left(3, 1), 0);
    }

    private void promise4Today() {
        AshMetals x = new AshMetals();
        due.yes("p4 same day", x.today(0));
        due.no("p4 below 0", x.today(-1));
        due.yes("p4 on", x.today(5));
        due.no("p4 back", x.today(4));
        due.yes("p4 same", x.today(5));
        due.no("p4 beyond", x.today(100001));
        due.no("p4 far beyond", x.today(Integer.MAX_VALUE));
        due.no("p4 far below", x.today(Integer.MIN_VALUE));
        due.yes("p4 refused changes nothing", x.today(5));
        due.yes("p4 last", x.today(100000));
        due.no("p4 none before the last", x.today(99999));
    }

    private void promise5Stage() {
        AshMetals x = new AshMetals();
        for (int metal : WRONG_METALS) {
            due.none("p5 metal " + metal, x.stage(metal, 1, 1));
        }
        int[] wrong = {-1, 1001, Integer.MIN_VALUE, Integer.MAX_VALUE};
        for (int thousandths : wrong) {
            due.none("p5 thousandths " + thousandths, x.stage(0, thousandths, 1));
            due.none("p5 drags " + thousandths, x.stage(0, 1, thousandths));
        }
        due.none("p5 refused is not kept", x.stock(0, 0));
        due.is("p5 first", x.stage(0, 0, 0), 0);
        due.is("p5 second", x.stage(3, 1000, 1000), 1);
        for (int i = 2; i < 6; i++) {
            due.is("p5 number", x.stage(1, 1, 1), i);
        }
        due.none("p5 seventh", x.stage(1, 1, 1));
        due.none("p5 seventh is not kept", x.stock(6, 0));
    }

    private void promise6Run() {
        AshMetals x = new AshMetals();
        x.batch(10);
        x.batch(10);
        x.batch(10);
        due.is("p6 no stages", x.run(2), 0);
        due.none("p6 once, without stages too", x.run(2));
        x.stage(0, 500, 100);
        x.stage(0, 500, 100);
        x.parts(0, 0, 1);
        x.parts(0, 1, 101);
        due.is("p6 run", x.run(0), 2);
        due.none("p6 once", x.run(0));
        due.is("p6 one behind the other, down", x.left(0, 0), 3);
        due.is("p6 one behind the other, down", x.left(0, 1), 819);
        due.is("p6 stock", x.stock(0, 0), 5);
        due.is("p6 stock", x.stock(1, 0), 2);
        due.is("p6 stock", x.stock(0, 1), 101);
        due.is("p6 stock", x.stock(1, 1), 90);
        for (int batch : WRONG_NUMBERS) {
            due.none("p6 batch " + batch, x.run(batch));
        }
        x.batch(1);
        x.mix(1, 3);
        due.none("p6 gone", x.run(1));
        due.none("p6 gone", x.run(3));
        x.stage(2, 1, 1);
        due.is("p6 mixed", x.run(4), 3);
        x.mix(0, 4);
        due.none("p6 mixed of run ones", x.run(5));
    }

    private void promise6RunTakesGramsStageByStage() {
        AshMetals x = new AshMetals();
        x.batch(3);
        x.parts(0, 0, 500000);
        x.parts(0, 1, 500000);
        // 1500000 of both: half of each is 1500000 together (1 gram), then 375000 of each (none).
        x.stage(0, 500, 500);
        x.stage(0, 500, 500);
        due.is("p6 stages", x.run(0), 2);
        due.is("p6 all metals together, each stage by itself", x.grams(0), 2);
        x.batch(1000000);
        for (int metal = 0; metal < 4; metal++) {
            x.parts(1, metal, 1000000);
        }
        x.run(1);
        due.is("p6 not below 0", x.grams(1), 0);
        AshMetals y = new AshMetals();
        y.stage(0, 1000, 1000);
        y.batch(1);
        y.parts(0, 0, 999998);
        y.parts(0, 3, 1);
        y.run(0);
        due.is("p6 just below a gram", y.grams(0), 1);
        y.batch(1);
        y.parts(1, 0, 999998);
        y.parts(1, 3, 2);
        y.run(1);
        due.is("p6 just a gram", y.grams(1), 0);
    }

    private void promise7Taken() {
        AshMetals x = new AshMetals();
        x.batch(1000);
        x.batch(1);
        x.batch(1);
        x.parts(0, 2, 1000);
        x.stage(2, 250, 1000);
        x.stage(1, 1000, 10);
        due.none("p7 not run", x.taken(0, 0, 2));
        x.run(0);
        due.is("p7 own", x.taken(0, 0, 2), 250000);
        due.is("p7 dragged", x.taken(0, 1, 2), 7500);
        due.is("p7 nothing there", x.taken(0, 0, 0), 0);
        due.is("p7 last metal", x.taken(0, 1, 3), 0);
        x.stage(2, 1, 1);
        due.none("p7 no stage of that run", x.taken(0, 2, 2));
        for (int number : WRONG_NUMBERS) {
            due.none("p7 stage " + number, x.taken(0, number, 2));
            due.none("p7 batch " + number, x.taken(number, 0, 2));
        }
        for (int metal : WRONG_METALS) {
            due.none("p7 metal " + metal, x.taken(0, 0, metal));
        }
        x.run(1);
        x.mix(0, 1);
        due.none("p7 mixed was not run by itself", x.taken(3, 0, 2));
        due.is("p7 gone keeps its run", x.taken(0, 0, 2), 250000);
        x.sell(0);
        due.is("p7 sold stays taken", x.taken(0, 0, 2), 250000);
        x.batch(1000);
        x.parts(4, 2, 4);
        x.mix(4, 2);
        due.is("p7 mixed is run", x.run(5), 3);
        due.is("p7 mixed and run by itself", x.taken(5, 0, 2), 1000);
        due.none("p7 its origin was not run", x.taken(4, 0, 2));
    }

    private void promise8Left() {
        AshMetals x = new AshMetals();
        x.batch(1000000000L);
        x.parts(0, 3, 1000000);
        due.is("p8 most", x.left(0, 3), 1000000000000000L);
        due.is("p8 another metal", x.left(0, 0), 0);
        for (int number : WRONG_NUMBERS) {
            due.none("p8 batch " + number, x.left(number, 0));
        }
        for (int metal : WRONG_METALS) {
            due.none("p8 metal " + metal, x.left(0, metal));
        }
        due.none("p8 batch not yet made", x.left(1, 0));
        x.stage(3, 999, 0);
        x.run(0);
        due.is("p8 after a run", x.left(0, 3), 1000000000000L);
        x.batch(1);
        x.run(1);
        x.mix(0, 1);
        due.is("p8 gone", x.left(0, 3), 1000000000000L);
    }

    private void promise9Grams() {
        AshMetals x = new AshMetals();
        x.batch(12);
        due.is("p9 grams", x.grams(0), 12);
        for (int number : WRONG_NUMBERS) {
            due.none("p9 batch " + number, x.grams(number));
        }
        due.none("p9 not yet made", x.grams(1));
        x.parts(0, 0, 1000000);
        due.is("p9 parts weigh nothing more", x.grams(0), 12);
        x.stage(0, 250, 0);
        x.run(0);
        due.is("p9 after a run", x.grams(0), 9);
        x.batch(1);
        x.run(1);
        x.mix(0, 1);
        due.is("p9 gone", x.grams(0), 9);
        due.is("p9 mixed", x.grams(2), 10);
    }

    private void promise10Stock() {
        AshMetals x = new AshMetals();
        x.stage(1, 500, 100);
        due.is("p10 nothing yet", x.stock(0, 1), 0);
        x.batch(10);
        x.parts(0, 1, 10);
        x.parts(0, 2, 10);
        x.batch(20);
        x.parts(1, 1, 10);
        x.run(0);
        due.is("p10 own", x.stock(0, 1), 50);
        due.is("p10 dragged", x.stock(0, 2), 10);
        x.run(1);
        due.is("p10 comes to it", x.stock(0, 1), 150);
        x.mix(0, 1);
        due.is("p10 mixing leaves it", x.stock(0, 1), 150);
        for (int number : WRONG_NUMBERS) {
            due.none("p10 stage " + number, x.stock(number, 0));
        }
        for (int metal : WRONG_METALS) {
            due.none("p10 metal " + metal, x.stock(0, metal));
        }
        due.none("p10 not yet made", x.stock(1, 0));
    }

    private void promise11Price() {
        AshMetals x = new AshMetals();
        x.batch(1);
        x.parts(0, 0, 1000000);
        for (int metal : WRONG_METALS) {
            due.no("p11 metal " + metal, x.price(metal, 1, 1));
        }
        for (int day : WRONG_DAYS) {
            due.no("p11 day " + day, x.price(0, day, 1));
        }
        long[] wrong = {-1, 1000001, Long.MIN_VALUE, Long.MAX_VALUE, 1L << 32};
        for (long cents : wrong) {
            due.no("p11 cents " + cents, x.price(0, 1, cents));
        }
        due.is("p11 refused is not kept", x.worth(0, 100000), 0);
        due.yes("p11 day 0, no cents", x.price(0, 0, 0));
        due.no("p11 same day", x.price(0, 0, 5));
        due.yes("p11 most cents", x.price(0, 10, 1000000));
        due.no("p11 earlier", x.price(0, 9, 5));
        due.yes("p11 other metals by themselves", x.price(1, 9, 5));
        due.yes("p11 third", x.price(0, 11, 3));
        due.yes("p11 fourth", x.price(0, 12, 4));
        due.yes("p11 fifth", x.price(0, 13, 5));
        due.yes("p11 sixth, last day", x.price(0, 100000, 6));
        due.no("p11 none behind the last day", x.price(0, 100001, 7));
        due.is("p11 kept", x.worth(0, 10), 1000000);
        due.is("p11 kept", x.worth(0, 99999), 5);
        due.is("p11 kept", x.worth(0, 100000), 6);
        for (int i = 0; i < 6; i++) {
            due.yes("p11 six", x.price(3, i, i));
        }
        due.no("p11 seventh", x.price(3, 50, 7));
        due.yes("p11 today does not bind it", x.today(50) && x.price(2, 3, 1));
    }

    private void promise12Worth() {
        AshMetals x = new AshMetals();
        x.batch(1);
        x.parts(0, 0, 500000);
        x.parts(0, 1, 500000);
        x.price(0, 5, 1);
        x.price(1, 5, 1);
        x.price(0, 8, 3);
        due.is("p12 before the first price", x.worth(0, 4), 0);
        due.is("p12 together before it goes down", x.worth(0, 5), 1);
        due.is("p12 between", x.worth(0, 7), 1);
        due.is("p12 latest", x.worth(0, 8), 2);
        due.is("p12 beyond all days", x.worth(0, Integer.MAX_VALUE), 2);
        due.none("p12 day below 0", x.worth(0, -1));
        due.none("p12 day far below 0", x.worth(0, Integer.MIN_VALUE));
        for (int number : WRONG_NUMBERS) {
            due.none("p12 batch " + number, x.worth(number, 5));
        }
        x.batch(1);
        x.mix(0, 1);
        due.is("p12 gone", x.worth(0, 8), 2);
        due.is("p12 mixed", x.worth(2, 8), 2);
        x.stage(0, 1000, 1000);
        x.run(2);
        due.is("p12 nothing left", x.worth(2, 8), 0);
        x.price(2, 0, 1);
        x.batch(1);
        x.parts(3, 2, 999999);
        due.is("p12 just below a cent", x.worth(3, 0), 0);
        x.parts(3, 2, 1000000);
        due.is("p12 just a cent", x.worth(3, 0), 1);
    }

    private void promise12WorthOfTheMost() {
        AshMetals x = new AshMetals();
        fourFullBatchesInOne(x);
        for (int metal = 0; metal < 4; metal++) {
            x.price(metal, 0, 1000000);
        }
        due.is("p12 past a long", x.worth(6, 0), 16000000000000000L);
        x.stage(0, 1, 999);
        x.run(6);
        due.is("p12 past a long", x.worth(6, 0), 4008000000000000L);
        due.is("p13 past a long", x.sell(0), 11992000000000000L);
        due.is("p14 past a long", x.money(), 11992000000000000L);
    }

    private void promise13Sell() {
        AshMetals x = new AshMetals();
        x.stage(0, 1000, 1000);
        x.stage(1, 1000, 1000);
        x.batch(1);
        x.parts(0, 0, 500000);
        x.parts(0, 1, 500000);
        x.run(0);
        x.price(0, 2, 3);
        x.price(1, 2, 2);
        x.price(0, 3, 1000);
        for (int number : WRONG_NUMBERS) {
            due.none("p13 stage " + number, x.sell(number));
        }
        due.none("p13 not yet made", x.sell(2));
        due.is("p13 refused changes nothing", x.stock(0, 0), 500000);
        x.today(2);
        due.is("p13 an empty stock", x.sell(1), 0);
        due.is("p13 today's prices, together, down", x.sell(0), 2);
        due.is("p13 nothing then", x.stock(0, 0), 0);
        due.is("p13 nothing then", x.stock(0, 1), 0);
        due.is("p13 nothing more", x.sell(0), 0);
        x.batch(2);
        x.parts(1, 3, 1000000);
        x.run(1);
        due.is("p13 without a price", x.sell(0), 0);
        due.is("p13 gone all the same", x.stock(0, 3), 0);
    }

    private void promise14Money() {
        AshMetals x = new AshMetals();
        due.is("p14 first", x.money(), 0);
        x.stage(0, 1000, 0);
        x.stage(1, 1000, 0);
        x.price(0, 0, 7);
        x.price(1, 0, 11);
        x.batch(1);
        x.parts(0, 0, 1000000);
        x.parts(0, 1, 1000000);
        x.run(0);
        due.is("p14 before a sale", x.money(), 0);
        x.sell(0);
        due.is("p14 one sale", x.money(), 7);
        x.sell(9);
        due.is("p14 refused", x.money(), 7);
        x.sell(1);
        due.is("p14 two sales", x.money(), 18);
    }

    private void promise15Assay() {
        AshMetals x = new AshMetals();
        x.batch(1);
        Scenes.tell(x, 0, 0, 10, 20, 30);
        int[] wrongLabs = {-1, 3, Integer.MIN_VALUE, Integer.MAX_VALUE};
        for (int lab : wrongLabs) {
            due.no("p15 lab " + lab, x.assay(0, lab, 0, 5));
        }
        for (int metal : WRONG_METALS) {
            due.no("p15 metal " + metal, x.assay(0, 0, metal, 5));
        }
        for (int parts : WRONG_PARTS) {
            due.no("p15 parts " + parts, x.assay(0, 1, 0, parts));
        }
        for (int number : WRONG_NUMBERS) {
            due.no("p15 batch " + number, x.assay(number, 0, 0, 5));
        }
        due.is("p15 refused changes nothing", x.settled(0, 0), 20);
        due.yes("p15 least", x.assay(0, 2, 0, 0));
        due.is("p15 told again", x.settled(0, 0), 10);
        due.yes("p15 most", x.assay(0, 0, 0, 1000000));
        due.is("p15 told again", x.settled(0, 0), 20);
        x.batch(1);
        x.mix(0, 1);
        due.no("p15 gone", x.assay(0, 1, 0, 25));
        due.is("p15 gone keeps", x.settled(0, 0), 20);
        due.yes("p15 mixed", x.assay(2, 0, 0, 25));
        x.run(2);
        due.yes("p15 was run", x.assay(2, 0, 0, 26));
        due.is("p15 assays are not amounts", x.left(2, 0), 0);
    }

    private void promise16Settled() {
        AshMetals x = new AshMetals();
        x.batch(1);
        int[][] orders = {{1, 2, 3}, {1, 3, 2}, {2, 1, 3}, {2, 3, 1}, {3, 1, 2}, {3, 2, 1}, {2, 2, 3}, {1, 2, 2}, {2, 1, 2}};
        for (int[] order : orders) {
            Scenes.tell(x, 0, 2, order[0], order[1], order[2]);
            due.is("p16 middle", x.settled(0, 2), 2);
        }
        for (int told = 0; told < 7; told++) {
            AshMetals y = new AshMetals();
            y.batch(1);
            for (int lab = 0; lab < 3; lab++) {
                if ((told >> lab & 1) == 1) {
                    y.assay(0, lab, 1, 0);
                }
            }
            due.none("p16 not by all three: " + told, y.settled(0, 1));
        }
        Scenes.tell(x, 0, 0, 0, 0, 0);
        due.is("p16 nothing is settled as nothing", x.settled(0, 0), 0);
        due.none("p16 another metal", x.settled(0, 1));
        for (int number : WRONG_NUMBERS) {
            due.none("p16 batch " + number, x.settled(number, 0));
        }
        for (int metal : WRONG_METALS) {
            due.none("p16 metal " + metal, x.settled(0, metal));
        }
        Scenes.tell(x, 0, 3, 0, 500, 1000000);
        due.is("p16 disputed is settled too", x.settled(0, 3), 500);
        x.batch(1);
        x.mix(0, 1);
        due.none("p16 mixed has none", x.settled(2, 3));
        due.is("p16 gone keeps", x.settled(0, 3), 500);
    }

    private void promise17Disputed() {
        AshMetals x = new AshMetals();
        x.batch(1);
        due.no("p17 nobody told", x.disputed(0, 0));
        x.assay(0, 0, 0, 0);
        x.assay(0, 2, 0, 1000);
        due.no("p17 not all told", x.disputed(0, 0));
        Scenes.tell(x, 0, 0, 100, 150, 120);
        due.no("p17 just the tolerance", x.disputed(0, 0));
        Scenes.tell(x, 0, 0, 100, 151, 120);
        due.yes("p17 more", x.disputed(0, 0));
        Scenes.tell(x, 0, 0, 120, 100, 151);
        due.yes("p17 more, another order", x.disputed(0, 0));
        Scenes.tell(x, 0, 0, 151, 120, 100);
        due.yes("p17 more, another order", x.disputed(0, 0));
        due.no("p17 another metal", x.disputed(0, 1));
        for (int number : WRONG_NUMBERS) {
            due.no("p17 batch " + number, x.disputed(number, 0));
        }
        for (int metal : WRONG_METALS) {
            due.no("p17 metal " + metal, x.disputed(0, metal));
        }
        x.batch(1);
        x.mix(0, 1);
        due.no("p17 mixed", x.disputed(2, 0));
        due.yes("p17 gone keeps", x.disputed(0, 0));
    }

    private void promise18Tolerance() {
        AshMetals x = new AshMetals();
        x.batch(1);
        Scenes.tell(x, 0, 0, 0, 0, 51);
        due.yes("p18 50 at first", x.disputed(0, 0));
        due.yes("p18 more", x.tolerance(51));
        due.no("p18 more", x.disputed(0, 0));
        for (int parts : WRONG_PARTS) {
            due.no("p18 tolerance " + parts, x.tolerance(parts));
        }
        due.no("p18 refused changes nothing", x.disputed(0, 0));
        Scenes.tell(x, 0, 0, 0, 0, 52);
        due.yes("p18 refused changes nothing", x.disputed(0, 0));
        due.yes("p18 none", x.tolerance(0));
        Scenes.tell(x, 0, 0, 7, 7, 7);
        due.no("p18 none, all the same", x.disputed(0, 0));
        Scenes.tell(x, 0, 0, 7, 7, 8);
        due.yes("p18 none", x.disputed(0, 0));
        due.yes("p18 most", x.tolerance(1000000));
        Scenes.tell(x, 0, 0, 0, 0, 1000000);
        due.no("p18 most", x.disputed(0, 0));
    }

    private void promise19Rule() {
        AshMetals x = new AshMetals();
        int[] wrongClasses = {-1, 10, 99, Integer.MIN_VALUE, Integer.MAX_VALUE};
        for (int cls : wrongClasses) {
            due.none("p19 class " + cls, x.rule(cls, 0, 1, 1));
        }
        for (int metal : WRONG_METALS) {
            due.none("p19 metal " + metal, x.rule(0, metal, 1, 1));
        }
        for (int limit : WRONG_PARTS) {
            due.none("p19 limit " + limit, x.rule(0, 0, limit, 1));
        }
        for (int age : WRONG_DAYS) {
            due.none("p19 age " + age, x.rule(0, 0, 1, age));
        }
        due.is("p19 least", x.rule(0, 0, 0, 0), 0);
        due.is("p19 most", x.rule(9, 3, 1000000, 100000), 1);
        for (int i = 2; i < 8; i++) {
            due.is("p19 number", x.rule(1, 1, 1, 1), i);
        }
        due.none("p19 ninth", x.rule(1, 1, 1, 1));
        x.batch(1);
        due.is("p19 eight rules, none fits", x.cls(0), 99);
    }

    private void promise20Cls() {
        AshMetals x = new AshMetals();
        x.today(100);
        x.batch(1);
        for (int number : WRONG_NUMBERS) {
            due.none("p20 batch " + number, x.cls(number));
        }
        due.is("p20 no rules", x.cls(0), 99);
        x.rule(4, 1, 20, 3);
        due.is("p20 not settled", x.cls(0), 99);
        Scenes.tell(x, 0, 1, 0, 20, 50);
        due.is("p20 too young", x.cls(0), 99);
        x.today(102);
        due.is("p20 too young", x.cls(0), 99);
        x.today(103);
        due.is("p20 old enough, just the limit", x.cls(0), 4);
        x.assay(0, 1, 1, 21);
        due.is("p20 above the limit", x.cls(0), 99);
        x.assay(0, 1, 1, 19);
        due.is("p20 below the limit", x.cls(0), 4);
        x.assay(0, 2, 1, 51);
        due.is("p20 disputed", x.cls(0), 99);
        x.tolerance(51);
        due.is("p20 no longer", x.cls(0), 4);
        x.run(0);
        due.is("p20 was run", x.cls(0), 4);
        x.batch(1);
        x.run(1);
        x.mix(0, 1);
        due.none("p20 gone", x.cls(0));
        due.is("p20 mixed", x.cls(2), 99);
    }

    private void promise20ClsFirstRule() {
        AshMetals x = new AshMetals();
        x.batch(1);
        x.rule(7, 0, 10, 0);
        x.rule(5, 3, 1000000, 0);
        x.rule(0, 0, 1000000, 0);
        Scenes.tell(x, 0, 3, 0, 0, 1000);
        due.is("p20 disputed", x.cls(0), 99);
        Scenes.tell(x, 0, 0, 11, 11, 11);
        due.is("p20 the third", x.cls(0), 0);
        Scenes.tell(x, 0, 3, 3, 3, 3);
        due.is("p20 the second", x.cls(0), 5);
        Scenes.tell(x, 0, 0, 10, 10, 10);
        due.is("p20 the first", x.cls(0), 7);
    }

    private void promise21Mix() {
        AshMetals x = new AshMetals();
        x.batch(3);
        x.parts(0, 0, 5);
        x.parts(0, 1, 7);
        x.today(9);
        x.batch(4);
        x.parts(1, 1, 11);
        x.parts(1, 3, 13);
        Scenes.tell(x, 0, 0, 1, 1, 1);
        Scenes.tell(x, 1, 0, 1, 1, 1);
        x.rule(6, 0, 1000000, 1);
        due.is("p21 mixed", x.mix(1, 0), 2);
        due.is("p21 grams together", x.grams(2), 7);
        due.is("p21 amounts together", x.left(2, 0), 15);
        due.is("p21 amounts together", x.left(2, 1), 65);
        due.is("p21 amounts together", x.left(2, 2), 0);
        due.is("p21 amounts together", x.left(2, 3), 52);
        due.none("p21 no assays", x.settled(2, 0));
        due.none("p21 gone", x.cls(0));
        due.none("p21 gone", x.cls(1));
        Scenes.tell(x, 2, 0, 1, 1, 1);
        due.is("p21 the later day", x.cls(2), 99);
        x.today(10);
        due.is("p21 the later day", x.cls(2), 6);
        due.is("p21 was not run", x.run(2), 0);
        x.batch(1);
        x.run(3);
        due.is("p21 of run ones", x.mix(2, 3), 4);
        due.none("p21 was run", x.run(4));
        due.is("p21 grams of run ones", x.grams(4), 8);
    }

    private void promise21MixRefused() {
        AshMetals x = new AshMetals();
        x.batch(1);
        x.batch(2);
        for (int number : WRONG_NUMBERS) {
            due.none("p21 batch " + number, x.mix(number, 0));
            due.none("p21 batch " + number, x.mix(0, number));
            due.none("p21 batches " + number, x.mix(number, number));
        }
        due.none("p21 the same", x.mix(0, 0));
        x.run(0);
        due.none("p21 just one run", x.mix(0, 1));
        due.none("p21 just one run", x.mix(1, 0));
        due.is("p21 refused leaves them", x.cls(0), 99);
        x.run(1);
        due.is("p21 both run", x.mix(0, 1), 2);
        due.none("p21 both gone", x.mix(0, 1));
        due.none("p21 one gone", x.mix(0, 2));
        due.none("p21 one gone", x.mix(2, 1));
        for (int i = 3; i < 8; i++) {
            x.batch(i);
        }
        due.none("p21 there are 8", x.mix(3, 4));
        due.is("p21 there are 8: not gone", x.cls(3), 99);
        due.none("p21 there are 8: none kept", x.grams(8));
    }

    private void promise21MixOfTheMost() {
        AshMetals x = new AshMetals();
        fourFullBatchesInOne(x);
        due.is("p21 most grams", x.grams(6), 4000000000L);
        x.stage(2, 1000, 999);
        due.is("p21 run", x.run(6), 1);
        due.is("p21 most taken", x.taken(6, 0, 2), 4000000000000000L);
        due.is("p21 most dragged", x.taken(6, 0, 0), 3996000000000000L);
        due.is("p21 left", x.left(6, 0), 4000000000000L);
        due.is("p21 no grams left", x.grams(6), 0);
    }

    private void promise22Dispute() {
        AshMetals x = new AshMetals();
        for (int i = 0; i < 5; i++) {
            x.batch(1);
        }
        due.none("p22 none", x.dispute(0));
        Scenes.tell(x, 4, 3, 0, 0, 51);
        Scenes.tell(x, 1, 0, 0, 51, 0);
        Scenes.tell(x, 1, 2, 0, 51, 0);
        Scenes.tell(x, 2, 2, 51, 0, 0);
        Scenes.tell(x, 3, 1, 50, 0, 0);
        due.is("p22 by numbers", x.dispute(0), 1);
        due.is("p22 each batch once", x.dispute(1), 2);
        due.is("p22 the last metal", x.dispute(2), 4);
        int[] wrong = {3, -1, Integer.MIN_VALUE, Integer.MAX_VALUE};
        for (int k : wrong) {
            due.none("p22 k " + k, x.dispute(k));
        }
        x.mix(0, 1);
        due.is("p22 gone ones are passed over", x.dispute(0), 2);
        due.is("p22 gone ones are passed over", x.dispute(1), 4);
        due.none("p22 gone ones are passed over", x.dispute(2));
        x.tolerance(51);
        due.none("p22 by the tolerance", x.dispute(0));
        x.tolerance(49);
        due.is("p22 by the tolerance", x.dispute(1), 3);
    }

    private void promise22DisputeOfAllBatches() {
        AshMetals x = new AshMetals();
        for (int i = 0; i < 8; i++) {
            x.batch(1);
            Scenes.tell(x, i, i % 4, 0, 0, 51);
        }
        for (int k = 0; k < 8; k++) {
            due.is("p22 all of eight", x.dispute(k), k);
        }
        due.none("p22 there is no ninth", x.dispute(8));
    }

    /** Batch 6 is then the greatest that eight batches can give. */
    private static void fourFullBatchesInOne(AshMetals x) {
        for (int batch = 0; batch < 4; batch++) {
            x.batch(1000000000L);
            for (int metal = 0; metal < 4; metal++) {
                x.parts(batch, metal, 1000000);
            }
        }
        x.mix(0, 1);
        x.mix(2, 3);
        x.mix(4, 5);
    }
}
