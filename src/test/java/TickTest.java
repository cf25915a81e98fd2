/** What a tick does, step by step, with numbers that were worked out by hand. */
public final class TickTest {
    private static final int NONE = BrokeLoop.NONE;

    public static void main(String[] args) {
        firstTick();
        inflowSpills();
        brokeIsMixed();
        brokeIsShort();
        pulpIsShort();
        wantedIsRoundedDown();
        demandIsWhatIsMissing();
        brokeOfAnotherGrade();
        reasonsInOrder();
        valveAddsWater();
        valveHasBounds();
        delays();
        machineChestSpills();
        brokenSheet();
        offGradeSheet();
        brokeGradeWithoutFibre();
        brokeChestSpills();
        greatestSums();
        Checks.end("TickTest");
    }

    private static void firstTick() {
        BrokeLoop loop = new BrokeLoop();
        Checks.due("paper of the first tick", loop.run(1), 20);
        Checks.due("clock", loop.told(0), 1);
        Checks.chestHas("first tick", loop, 0, 420, 10080);
        Checks.chestHas("first tick", loop, 1, 0, 0);
        Checks.chestHas("first tick", loop, 2, 0, 0);
        Checks.chestHas("first tick", loop, 3, 0, 0);
        Checks.due("reason", loop.told(6), 2);
        Checks.due("measurement", loop.told(7), 40);
        Checks.due("inflow", loop.account(0), 40);
    }

    private static void inflowSpills() {
        BrokeLoop loop = new BrokeLoop();
        loop.set(2, 0);
        loop.set(0, 200);
        loop.set(1, 5000);
        loop.run(1);
        Checks.chestHas("inflow", loop, 0, 600, 14600);
        // 800 and 19600 are 400 above the room: 400 * 800 / 20400 = 15 of fibre are spilled.
        loop.run(1);
        Checks.chestHas("inflow that spills", loop, 0, 785, 19215);
        Checks.due("spilled", loop.account(3), 15);
        Checks.due("inflow counts whole", loop.account(0), 400);
    }

    private static void brokeIsMixed() {
        BrokeLoop loop = new BrokeLoop();
        loop.fill(1, 100, 900);
        // 150 of broke have 15 of fibre, 350 of pulp 350 * 440 / 11000 = 14.
        Checks.due("paper with broke", loop.run(1), 29);
        Checks.chestHas("broke is mixed", loop, 1, 85, 765);
        Checks.chestHas("broke is mixed", loop, 0, 426, 10224);
        Checks.due("reason", loop.told(6), 0);
        Checks.due("measurement", loop.told(7), 58);
    }

    private static void brokeIsShort() {
        BrokeLoop loop = new BrokeLoop();
        loop.fill(1, 10, 90);
        Checks.due("paper with little broke", loop.run(1), 26);
        Checks.chestHas("broke is short", loop, 1, 0, 0);
        Checks.chestHas("broke is short", loop, 0, 424, 10176);
        Checks.due("reason", loop.told(6), 2);
    }

    private static void pulpIsShort() {
        BrokeLoop loop = new BrokeLoop();
        loop.drain(0, 50000);
        Checks.due("paper of the inflow alone", loop.run(1), 20);
        loop.set(0, 100);
        loop.set(1, 100);
        loop.drain(0, 50000);
        Checks.due("paper where the pulp is short", loop.run(1), 100);
        Checks.chestHas("pulp is short", loop, 0, 0, 0);
        Checks.due("measurement", loop.told(7), 500);
    }

    private static void wantedIsRoundedDown() {
        BrokeLoop loop = new BrokeLoop();
        loop.fill(1, 1000, 0);
        loop.set(2, 3);
        loop.set(3, 999);
        loop.run(1);
        Checks.due("of 2.997 wanted, taken", 1000 - loop.chest(1, 0), 2);
        loop.set(3, 333);
        loop.run(1);
        Checks.due("of 0.999 wanted, taken", 998 - loop.chest(1, 0), 0);
        Checks.due("nothing is less than nothing wanted", loop.told(6), 0);
        loop.set(3, 1000);
        loop.run(1);
        Checks.due("of all wanted, taken", 998 - loop.chest(1, 0), 3);
    }

    private static void demandIsWhatIsMissing() {
        BrokeLoop loop = new BrokeLoop();
        loop.fill(1, 1000, 0);
        loop.fill(2, 0, 9900);
        loop.set(3, 500);
        Checks.due("paper", loop.run(1), 2);
        // 50 of broke, 50 of pulp with 2 of fibre: 52 of fibre in 10000, of which 500 have 2.
        Checks.chestHas("demand of 100", loop, 1, 950, 0);
        Checks.chestHas("demand of 100", loop, 0, 438, 10512);
        Checks.chestHas("demand of 100", loop, 2, 50, 9450);
        loop.fill(2, 0, 500);
        loop.run(1);
        Checks.chestHas("demand of 0", loop, 1, 950, 0);
        Checks.due("reason without a demand", loop.told(6), 0);
        Checks.due("the machine is fed without a demand", 10000 - loop.chest(2, 3), 9500);
    }

    private static void brokeOfAnotherGrade() {
        BrokeLoop loop = new BrokeLoop();
        loop.fill(1, 1000, 0);
        loop.set(8, 0);
        loop.change(1);
        Checks.due("on grade at once", loop.run(1), 20);
        Checks.chestHas("broke of another grade", loop, 1, 1000, 0);
        Checks.due("reason", loop.told(6), 3);
        Checks.due("grade of the broke", loop.told(5), 0);
        loop.change(0);
        Checks.due("paper with broke", loop.run(1), 150 + 350 * 460 / 11500);
        Checks.due("reason", loop.told(6), 0);
    }

    private static void reasonsInOrder() {
        BrokeLoop loop = new BrokeLoop();
        Checks.due("no tick yet", loop.told(6), NONE);
        loop.set(3, 0);
        loop.run(1);
        Checks.due("the limit is 0", loop.told(6), 1);
        loop.change(1);
        loop.run(1);
        Checks.due("another grade goes ahead of the limit", loop.told(6), 3);
        loop.run(1);
        Checks.due("the broke has the grade now", loop.told(6), 1);
        loop.change(2);
        loop.set(2, 0);
        loop.run(1);
        Checks.due("no demand goes ahead of another grade", loop.told(6), 0);
    }

    private static void valveAddsWater() {
        BrokeLoop loop = new BrokeLoop();
        loop.set(5, 0);
        Checks.due("paper", loop.run(1), 20);
        Checks.due("valve", loop.told(4), 100);
        Checks.due("paper", loop.run(1), 18);
        Checks.due("valve", loop.told(4), 160);
        Checks.due("measurement", loop.told(7), 36);
        Checks.chestHas("thinned by 50", loop, 3, 2, 48);
        loop.set(2, 3);
        loop.run(1);
        // 160 * 3 / 1000 is no water: 53 and 0 of fibre from 3 of stock.
        Checks.due("water of 0.48", 10000 - loop.chest(3, 3), 50);
    }

    private static void valveHasBounds() {
        BrokeLoop loop = new BrokeLoop();
        loop.set(5, 0);
        loop.set(6, 50);
        loop.set(4, 1);
        loop.run(1);
        Checks.due("valve", loop.told(4), 1950);
        loop.fill(3, 5000, 0);
        loop.run(1);
        Checks.due("the valve at most", loop.told(4), 3000);
        loop.drain(3, 50000);
        loop.set(4, 100);
        loop.run(1);
        Checks.due("the valve goes down", loop.told(4) < 3000 ? 1 : 0, 1);
        loop.run(1);
        Checks.due("the valve at least", loop.told(4), 0);
    }

    private static void delays() {
        for (int delay = 0; delay <= 8; delay++) {
            BrokeLoop loop = new BrokeLoop();
            loop.set(5, delay);
            if (delay > 0) {
                loop.run(delay);
                Checks.due("delay " + delay + ": valve before", loop.told(4), 0);
            }
            loop.run(1);
            Checks.due("delay " + delay + ": valve", loop.told(4), 100);
            loop.begin();
            Checks.due("valve of a loop that is begun", loop.told(4), 0);
            Checks.due("no measurement", loop.told(7), NONE);
            loop.run(delay + 1);
            Checks.due("delay " + delay + ": valve again", loop.told(4), 100);
        }
        farthestMeasurement();
    }

    private static void farthestMeasurement() {
        BrokeLoop loop = new BrokeLoop();
        loop.set(6, 0);
        loop.run(1);
        loop.fill(3, 0, 500);
        loop.run(1);
        Checks.due("20 of fibre in 1000", loop.told(7), 20);
        loop.run(7);
        loop.set(4, 10);
        loop.set(5, 8);
        loop.set(6, 1);
        loop.run(1);
        Checks.due("the measurement of 8 ticks before", loop.told(4), 10);
    }

    private static void machineChestSpills() {
        BrokeLoop loop = new BrokeLoop();
        loop.fill(3, 5000, 5000);
        // 5020 in 10500: of the surplus of 500, 500 * 5020 / 10500 = 239 are fibre.
        Checks.due("paper", loop.run(1), 239);
        Checks.due("spilled", loop.account(3), 239);
        Checks.due("measured behind the spill", loop.told(7), 478);
        Checks.chestHas("machine chest", loop, 3, 4542, 4958);
        Checks.due("in all chests", loop.account(5), 4962);
    }

    private static void brokenSheet() {
        BrokeLoop loop = new BrokeLoop();
        loop.tear(2);
        Checks.due("paper of a broken sheet", loop.run(1), 0);
        Checks.chestHas("broke with the spray", loop, 1, 20, 500);
        Checks.due("still broken", loop.told(2), 1);
        Checks.due("into the broke chest", loop.account(7), 20);
        Checks.due("ticks lost", loop.told(10), 1);
        loop.run(1);
        Checks.due("runs again", loop.told(2), 0);
        Checks.due("ticks lost", loop.told(10), 2);
        Checks.holds("paper is made again", loop.run(1) > 0);
        Checks.due("ticks lost", loop.told(10), 2);
    }

    private static void offGradeSheet() {
        BrokeLoop loop = new BrokeLoop();
        loop.change(2);
        Checks.due("off grade time", loop.told(3), 5);
        Checks.due("paper off grade", loop.run(5), 0);
        Checks.due("off grade time", loop.told(3), 0);
        Checks.due("ticks lost", loop.told(10), 5);
        int made = loop.run(2);
        Checks.holds("paper is made", made > 0);
        Checks.due("paper of the grade", loop.paper(2), made);
        Checks.due("off grade time stays 0", loop.told(3), 0);
        loop.change(1);
        loop.tear(2);
        loop.run(2);
        Checks.due("both times go down", loop.told(2) * 10 + loop.told(3), 3);
    }

    private static void brokeGradeWithoutFibre() {
        BrokeLoop loop = new BrokeLoop();
        loop.set(2, 0);
        loop.change(3);
        Checks.due("grade of the broke", loop.told(5), 0);
        loop.run(1);
        Checks.due("grade of the broke", loop.told(5), 3);
        Checks.chestHas("spray alone", loop, 1, 0, 500);
        loop.set(8, 0);
        loop.change(1);
        loop.run(1);
        Checks.due("off grade still? the grade of the broke", loop.told(5), 3);
    }

    private static void brokeChestSpills() {
        BrokeLoop loop = new BrokeLoop();
        loop.fill(1, 3000, 26900);
        loop.set(3, 0);
        loop.tear(1);
        loop.run(1);
        // 3020 in 30420: of the surplus of 420, 420 * 3020 / 30420 = 41 are fibre.
        Checks.chestHas("broke chest", loop, 1, 2979, 27021);
        Checks.due("spilled", loop.account(3), 41);
        Checks.due("what is spilled went into it too", loop.account(7), 20);
    }

    private static void greatestSums() {
        BrokeLoop loop = new BrokeLoop();
        Checks.due("greatest sum before a tick", loop.chest(0, 4), 0);
        loop.fill(0, 0, 10000);
        loop.fill(1, 0, 1000);
        Checks.due("greatest sum before a tick", loop.chest(1, 4), 0);
        loop.run(1);
        // 850 stay in the broke chest, 20000 less 350 in the pulp chest.
        Checks.due("greatest sum at the end of a tick", loop.chest(1, 4), 850);
        Checks.due("greatest sum at the end of a tick", loop.chest(0, 4), 19650);
        Checks.due("greatest sum at the end of a tick", loop.chest(2, 4), 0);
        loop.fill(2, 0, 5000);
        loop.fill(3, 0, 3000);
        loop.run(1);
        Checks.due("greatest sum at the end of a tick", loop.chest(2, 4), 5000);
        Checks.due("greatest sum at the end of a tick", loop.chest(3, 4), 3000);
        loop.drain(0, 50000);
        loop.run(1);
        Checks.due("the greatest sum stays", loop.chest(0, 4), 19650);
        loop.begin();
        Checks.due("greatest sum of a loop that is begun", loop.chest(0, 4), 0);
    }
}
