/** A TICK: the sentences that name a boundary, step by step. */
public final class TickEdgesTest {
    private static final int NONE = BrokeLoop.NONE;

    public static void main(String[] args) {
        clockOfTheFirstTick();
        entryOfTheFirstTick();
        entryOfTheLastTime();
        inflowToTheRoom();
        inflowBeyondTheRoom();
        demandBelowWhatIsMissing();
        demandOfAFullMixingChest();
        brokeJustEnough();
        brokeOfAnEmptyChest();
        pulpJustEnough();
        pulpOfAnEmptyChest();
        restOfTheDemandIsPulp();
        noBrokeOfAnotherGrade();
        reasonWithoutDemand();
        reasonOfAnotherGrade();
        reasonOfTheLimit();
        reasonOfTooLittle();
        reasonOfWantingNothing();
        stockAsFarAsItIsThere();
        valveWater();
        machineChestToItsRoom();
        machineChestBeyondItsRoom();
        measuredWhenEmpty();
        measuredBehindTheValve();
        Checks.end("TickEdgesTest");
    }

    /** A loop without an inflow, whose pulp chest is empty. */
    private static BrokeLoop dry() {
        BrokeLoop loop = new BrokeLoop();
        loop.set(0, 0);
        loop.set(1, 0);
        Checks.empty(loop, 0);
        return loop;
    }

    /** "The clock, which is 0 at first, increases by 1." */
    private static void clockOfTheFirstTick() {
        BrokeLoop loop = new BrokeLoop();
        Checks.due("clock at first", loop.told(0), 0);
        loop.run(1);
        Checks.due("clock of a tick", loop.told(0), 1);
        loop.run(200);
        Checks.due("clock of 201 ticks", loop.told(0), 201);
    }

    /** "The entries of the schedule whose time this is are carried out": behind the clock, ahead of the rest. */
    private static void entryOfTheFirstTick() {
        Checks.due("a flow of 0 in the first tick", Checks.planned("f1:0").run(1), 0);
        Checks.due("a flow of 0 in the second tick", Checks.planned("f2:0").run(1), 20);
        Checks.due("a break in the first tick", Checks.planned("b1:1").run(1), 0);
        Checks.due("a grade in the first tick", Checks.planned("g1:1").run(1), 0);
        // 1000 of the 11000 that the inflow has made of the pulp chest.
        Checks.due("a flow of 1000 in the first tick", Checks.planned("f1:1000").run(1), 40);
    }

    private static void entryOfTheLastTime() {
        BrokeLoop loop = Checks.planned("f9999:7 f9998:6");
        loop.set(2, 0);
        for (int i = 0; i < 49; i++) {
            loop.run(200);
        }
        loop.run(197);
        Checks.due("flow at 9997", loop.setting(2), 0);
        Checks.due("entries ahead at 9997", loop.told(9), 2);
        loop.run(1);
        Checks.due("flow at 9998", loop.setting(2), 6);
        Checks.due("entries ahead at 9998", loop.told(9), 1);
        Checks.due("what would be at 9999", loop.later(1, 0), 0);
        loop.run(1);
        Checks.due("flow at 9999", loop.setting(2), 7);
        Checks.due("entries ahead at 9999", loop.told(9), 0);
        loop.run(200);
        Checks.due("the clock goes on", loop.told(0), 10199);
        Checks.due("flow behind it", loop.setting(2), 7);
    }

    private static BrokeLoop filling(int pulpWater) {
        BrokeLoop loop = new BrokeLoop();
        loop.set(2, 0);
        Checks.empty(loop, 0);
        loop.fill(0, 0, pulpWater);
        loop.run(1);
        return loop;
    }

    /** "The inflow of pulp, with its water, is filled into the pulp chest": just up to its room. */
    private static void inflowToTheRoom() {
        BrokeLoop loop = filling(18999);
        Checks.chestHas("one below the room", loop, 0, 40, 19959);
        loop = filling(19000);
        Checks.chestHas("up to the room", loop, 0, 40, 19960);
        Checks.due("nothing is spilled", loop.account(3), 0);
    }

    private static void inflowBeyondTheRoom() {
        BrokeLoop loop = filling(19001);
        Checks.chestHas("one beyond the room", loop, 0, 40, 19960);
        loop = filling(19500);
        // A surplus of 500 in 20500: 500 * 40 / 20500 is no fibre.
        Checks.chestHas("500 beyond the room", loop, 0, 40, 19960);
        loop.set(0, 200);
        loop.set(1, 5000);
        loop.run(1);
        // 240 in 25200, of a surplus of 5200: 5200 * 240 / 25200 = 49.
        Checks.chestHas("5200 beyond the room", loop, 0, 191, 19809);
        Checks.due("spilled", loop.account(3), 49);
        Checks.due("all of it came", loop.account(0), 240);
    }

    /** How much is taken from the pulp chest in a tick when the mixing chest has this mass, and there is no broke. */
    private static int demandWith(int mixing) {
        BrokeLoop loop = new BrokeLoop();
        loop.set(0, 0);
        loop.set(1, 0);
        loop.fill(2, 0, mixing);
        loop.run(1);
        return 10000 - Checks.mass(loop, 0);
    }

    /** "The demand is the flow of the machine, but at most what is missing in the mixing chest to its room." */
    private static void demandBelowWhatIsMissing() {
        Checks.due("demand where 501 are missing", demandWith(9499), 500);
        Checks.due("demand where 500 are missing", demandWith(9500), 500);
        Checks.due("demand where 499 are missing", demandWith(9501), 499);
        Checks.due("demand where 1 is missing", demandWith(9999), 1);
    }

    private static void demandOfAFullMixingChest() {
        Checks.due("demand where nothing is missing", demandWith(10000), 0);
        BrokeLoop loop = new BrokeLoop();
        loop.fill(1, 1000, 0);
        loop.fill(2, 0, 10000);
        loop.run(1);
        Checks.chestHas("no broke either", loop, 1, 1000, 0);
        Checks.due("but the machine chest is fed", Checks.mass(loop, 2), 9500);
    }

    private static BrokeLoop mixing(int brokeMass) {
        BrokeLoop loop = new BrokeLoop();
        loop.set(0, 0);
        loop.set(1, 0);
        loop.fill(1, brokeMass, 0);
        loop.run(1);
        return loop;
    }

    /** "Of it, as much as the broke chest holds is taken from it": 150 are wanted. */
    private static void brokeJustEnough() {
        BrokeLoop loop = mixing(151);
        Checks.chestHas("one more than wanted", loop, 1, 1, 0);
        Checks.due("pulp besides", Checks.mass(loop, 0), 9650);
        Checks.due("reason", loop.told(6), 0);
        loop = mixing(150);
        Checks.chestHas("just what is wanted", loop, 1, 0, 0);
        Checks.due("pulp besides", Checks.mass(loop, 0), 9650);
        Checks.due("reason", loop.told(6), 0);
        loop = mixing(149);
        Checks.chestHas("one less than wanted", loop, 1, 0, 0);
        Checks.due("pulp besides", Checks.mass(loop, 0), 9649);
        Checks.due("reason", loop.told(6), 2);
        Checks.due("all 149 came onto the machine, and 14 of pulp", loop.account(2), 149 + 351 * 400 / 10000);
    }

    private static void brokeOfAnEmptyChest() {
        BrokeLoop loop = mixing(0);
        Checks.chestHas("empty", loop, 1, 0, 0);
        Checks.due("pulp instead", Checks.mass(loop, 0), 9500);
        Checks.due("reason", loop.told(6), 2);
        Checks.due("paper", loop.account(2), 20);
    }

    private static BrokeLoop mixingPulp(int pulpMass) {
        BrokeLoop loop = dry();
        loop.fill(0, pulpMass, 0);
        loop.fill(1, 1000, 0);
        loop.run(1);
        return loop;
    }

    /** "The rest of the demand, as much as there is, is taken from the pulp chest": 350 are the rest. */
    private static void pulpJustEnough() {
        BrokeLoop loop = mixingPulp(351);
        Checks.chestHas("one more than the rest", loop, 0, 1, 0);
        Checks.due("paper", loop.account(2), 500);
        loop = mixingPulp(350);
        Checks.chestHas("just the rest", loop, 0, 0, 0);
        Checks.due("paper", loop.account(2), 500);
        loop = mixingPulp(349);
        Checks.chestHas("one less than the rest", loop, 0, 0, 0);
        Checks.due("paper", loop.account(2), 499);
        Checks.chestHas("no more broke for it", loop, 1, 850, 0);
        Checks.due("reason", loop.told(6), 0);
    }

    private static void pulpOfAnEmptyChest() {
        BrokeLoop loop = mixingPulp(0);
        Checks.chestHas("empty", loop, 0, 0, 0);
        Checks.due("paper of broke alone", loop.account(2), 150);
        loop = dry();
        Checks.due("paper of nothing", loop.run(1), 0);
        Checks.due("reason", loop.told(6), 2);
        Checks.due("mixing chest", Checks.mass(loop, 2), 0);
    }

    /** The rest is the demand less what was taken of broke, not less what was wanted. */
    private static void restOfTheDemandIsPulp() {
        BrokeLoop loop = mixing(100);
        Checks.due("of pulp", 10000 - Checks.mass(loop, 0), 400);
        loop = new BrokeLoop();
        loop.set(3, 1000);
        loop.run(1);
        Checks.due("all of it pulp", Checks.mass(loop, 0), 10500);
    }

    /** "If the grade of the broke (see below) is not the present grade, no broke is wanted." */
    private static void noBrokeOfAnotherGrade() {
        BrokeLoop loop = new BrokeLoop();
        loop.set(8, 0);
        loop.fill(1, 1000, 0);
        loop.change(3);
        loop.run(1);
        Checks.chestHas("no broke is wanted", loop, 1, 1000, 0);
        Checks.due("the rest is the whole demand", Checks.mass(loop, 0), 10500);
        loop.change(0);
        loop.run(1);
        Checks.chestHas("broke is wanted again", loop, 1, 850, 0);
    }

    /** "0 if the demand is 0", ahead of all others. */
    private static void reasonWithoutDemand() {
        BrokeLoop loop = new BrokeLoop();
        loop.set(2, 0);
        loop.set(3, 0);
        loop.run(1);
        Checks.due("no flow, and the limit 0", loop.told(6), 0);
        loop.set(8, 0);
        loop.change(1);
        loop.run(1);
        Checks.due("no flow, and another grade", loop.told(6), 0);
        loop = new BrokeLoop();
        loop.fill(2, 0, 10000);
        loop.set(8, 0);
        loop.change(1);
        loop.run(1);
        Checks.due("nothing missing, and another grade", loop.told(6), 0);
        loop.run(1);
        Checks.due("500 missing, and another grade", loop.told(6), 3);
    }

    /** "Otherwise 3 if the grade of the broke is not the present one (also if the broke chest is empty)". */
    private static void reasonOfAnotherGrade() {
        BrokeLoop loop = new BrokeLoop();
        loop.set(8, 0);
        loop.change(2);
        loop.run(1);
        Checks.due("another grade, and an empty chest", loop.told(6), 3);
        loop.set(3, 0);
        loop.run(1);
        Checks.due("another grade, and the limit 0", loop.told(6), 3);
        loop.set(3, 300);
        loop.fill(1, 1000, 0);
        loop.run(1);
        Checks.due("another grade, and broke", loop.told(6), 3);
        loop.change(0);
        loop.run(1);
        Checks.due("the same grade, and broke", loop.told(6), 0);
    }

    /** "Otherwise 1 if the limit is 0", also if the broke chest is empty. */
    private static void reasonOfTheLimit() {
        BrokeLoop loop = new BrokeLoop();
        loop.set(3, 0);
        loop.run(1);
        Checks.due("the limit 0, and an empty chest", loop.told(6), 1);
        loop.fill(1, 1000, 0);
        loop.run(1);
        Checks.due("the limit 0, and broke", loop.told(6), 1);
    }

    /** "Otherwise 2 if less was taken than wanted". */
    private static void reasonOfTooLittle() {
        BrokeLoop loop = new BrokeLoop();
        loop.set(3, 2);
        loop.run(1);
        Checks.due("1 is wanted, none is there", loop.told(6), 2);
        loop.fill(1, 1, 0);
        loop.run(1);
        Checks.due("1 is wanted, 1 is there", loop.told(6), 0);
    }

    /** "Otherwise 0", where the limit is above 0 but nothing is wanted. */
    private static void reasonOfWantingNothing() {
        BrokeLoop loop = new BrokeLoop();
        loop.set(3, 1);
        loop.run(1);
        Checks.due("0.5 is wanted, none is there", loop.told(6), 0);
        loop = new BrokeLoop();
        Checks.due("no tick yet", loop.told(6), NONE);
        loop.fill(2, 0, 9997);
        loop.run(1);
        Checks.due("0.9 is wanted, none is there", loop.told(6), 0);
        loop = new BrokeLoop();
        loop.fill(2, 0, 9996);
        loop.run(1);
        Checks.due("1.2 is wanted, none is there", loop.told(6), 2);
    }

    private static BrokeLoop feeding(int mixingMass) {
        BrokeLoop loop = dry();
        loop.fill(2, mixingMass, 0);
        loop.run(1);
        return loop;
    }

    /** "From the mixing chest, the flow of the machine is taken, as far as it is there". */
    private static void stockAsFarAsItIsThere() {
        int[][] rows = {{0, 0, 0}, {1, 1, 0}, {499, 499, 0}, {500, 500, 0}, {501, 500, 1}};
        for (int[] row : rows) {
            BrokeLoop loop = feeding(row[0]);
            Checks.due("paper of " + row[0], loop.account(2), row[1]);
            Checks.chestHas("mixing chest of " + row[0], loop, 2, row[2], 0);
        }
    }

    /** A loop whose valve is and stays so, with all chests empty and no flow in. */
    private static BrokeLoop withValve(int valve) {
        BrokeLoop loop = new BrokeLoop();
        loop.set(2, 0);
        loop.set(5, 0);
        loop.set(6, 10);
        loop.fill(3, 30 + valve / 10, 970 - valve / 10);
        loop.run(1);
        loop.set(6, 0);
        loop.set(0, 0);
        loop.set(1, 0);
        Checks.empty(loop, 0);
        Checks.empty(loop, 3);
        Checks.due("the valve", loop.told(4), valve);
        return loop;
    }

    private static int massOf(int valve, int taken) {
        BrokeLoop loop = withValve(valve);
        loop.fill(2, 0, taken);
        loop.set(2, 2000);
        loop.run(1);
        int onto = Math.min(2000, Math.min(2000, taken) * (1000 + valve) / 1000);
        return Checks.mass(loop, 3) + onto;
    }

    /** "The valve adds water to it: valve * (what is taken) / 1000." */
    private static void valveWater() {
        Checks.due("the valve 0", massOf(0, 1500), 1500);
        Checks.due("the valve 100 of 9", massOf(100, 9), 9);
        Checks.due("the valve 100 of 10", massOf(100, 10), 11);
        Checks.due("the valve 3000 of nothing", massOf(3000, 0), 0);
        Checks.due("the valve 3000 of 1", massOf(3000, 1), 4);
        Checks.due("the valve 3000 of 2000", massOf(3000, 2000), 8000);
        // The water is for what is taken, not for the flow.
        Checks.due("the valve 3000 of 100", massOf(3000, 100), 400);
    }

    private static BrokeLoop feedingInto(int machineMass) {
        BrokeLoop loop = dry();
        loop.fill(2, 500, 0);
        while (machineMass > 0) {
            loop.fill(3, Math.min(5000, machineMass), 0);
            machineMass -= 5000;
        }
        loop.run(1);
        return loop;
    }

    /** "Both are filled into the machine chest": just up to its room. */
    private static void machineChestToItsRoom() {
        BrokeLoop loop = feedingInto(9499);
        Checks.chestHas("one below the room, less the flow", loop, 3, 9499, 0);
        loop = feedingInto(9500);
        Checks.chestHas("up to the room, less the flow", loop, 3, 9500, 0);
        Checks.due("nothing is spilled", loop.account(3), 0);
    }

    private static void machineChestBeyondItsRoom() {
        BrokeLoop loop = feedingInto(9501);
        Checks.chestHas("one beyond the room, less the flow", loop, 3, 9500, 0);
        Checks.due("1 is spilled", loop.account(3), 1);
        loop = feedingInto(10000);
        Checks.chestHas("a full chest, less the flow", loop, 3, 9500, 0);
        Checks.due("500 are spilled", loop.account(3), 500);
        // The surplus is taken once, of stock and water together: 1000 * 2500 / 11000 = 227, not 119 and 113.
        loop = withValve(1000);
        loop.fill(2, 500, 0);
        loop.fill(3, 2000, 8000);
        loop.set(2, 500);
        loop.run(1);
        Checks.due("spilled of both together", loop.account(3), 227);
    }

    /** A measurement of an empty chest is 0, and the controller works with it. */
    private static void measuredWhenEmpty() {
        BrokeLoop loop = withValve(500);
        loop.set(6, 10);
        loop.run(1);
        Checks.due("measured", loop.told(7), 0);
        Checks.due("the valve goes down by 30 * 10", loop.told(4), 200);
    }

    /** The machine chest is measured with the water of this tick, and ahead of what the machine takes. */
    private static void measuredBehindTheValve() {
        BrokeLoop loop = withValve(1000);
        loop.fill(2, 500, 0);
        loop.set(2, 500);
        loop.run(1);
        Checks.due("500 in 1000", loop.told(7), 500);
        loop = new BrokeLoop();
        loop.run(1);
        Checks.due("measured", loop.told(7), 40);
        Checks.due("then taken", Checks.mass(loop, 3), 0);
    }
}
