/** What would be: the edges of promises 21 (later), 22 (overflow) and 23 (bestLimit). */
public final class AheadTest {
    private static final int BAD = BrokeLoop.BAD, NONE = BrokeLoop.NONE;
    private static final int LOW = Integer.MIN_VALUE, HIGH = Integer.MAX_VALUE;

    public static void main(String[] args) {
        ticksOfLater();
        numbersOfLater();
        laterByOneTick();
        laterByTheMostTicks();
        laterTellsOfTheseTicksAlone();
        laterWithTheSchedule();
        everythingHappensInACopy();
        copyIsMadeAnew();
        overflowInTheFirstTick();
        overflowToTheRoom();
        overflowInTheLastTick();
        overflowOfAFullChest();
        overflowOfStepSixAlone();
        overflowWithTheSchedule();
        overflowOfABrokenSheet();
        overflowOffGrade();
        ticksOfBestLimit();
        leastLimit();
        greatestLimit();
        limitsNextToThem();
        leastOfSeveral();
        limitOfTheSetting();
        limitWithTheSchedule();
        limitOfTheMostTicks();
        Checks.end("AheadTest");
    }

    /** "n: the number of ticks, 1 to 300". */
    private static void ticksOfLater() {
        BrokeLoop loop = new BrokeLoop();
        int[] wrong = {0, 301, -1, LOW, HIGH};
        for (int n : wrong) {
            for (int what = 0; what < 4; what++) {
                Checks.due("later(" + n + ", " + what + ")", loop.later(n, what), BAD);
            }
        }
        int[] right = {1, 2, 299, 300};
        for (int n : right) {
            for (int what = 0; what < 4; what++) {
                Checks.holds("later(" + n + ", " + what + ")", loop.later(n, what) >= 0);
            }
        }
    }

    /** "BAD if an argument is out of range": 0 to 3. */
    private static void numbersOfLater() {
        BrokeLoop loop = new BrokeLoop();
        int[] wrong = {-1, 4, LOW, HIGH};
        for (int what : wrong) {
            Checks.due("later(1, " + what + ")", loop.later(1, what), BAD);
            Checks.due("later(300, " + what + ")", loop.later(300, what), BAD);
            Checks.due("later(0, " + what + ")", loop.later(0, what), BAD);
        }
    }

    private static void laterByOneTick() {
        BrokeLoop loop = new BrokeLoop();
        loop.fill(3, 5000, 5000);
        // 5020 in 10500: of the surplus of 500 and of the flow of 500, 239 each.
        Checks.due("paper", loop.later(1, 0), 239);
        Checks.due("spilled", loop.later(1, 1), 239);
        Checks.due("consistency", loop.later(1, 2), 4542 * 1000 / 9500);
        Checks.due("broke", loop.later(1, 3), 0);
        loop.tear(1);
        Checks.due("paper of a broken sheet", loop.later(1, 0), 0);
        Checks.due("broke of a broken sheet", loop.later(1, 3), 239);
    }

    private static void laterByTheMostTicks() {
        BrokeLoop loop = Checks.planned("b300:1 f301:0");
        loop.set(3, 0);
        int made = loop.later(300, 0);
        Checks.due("no paper in the 300th tick", loop.later(299, 0), made);
        int broke = loop.later(300, 3);
        Checks.due("no broke before it", loop.later(299, 3), 0);
        Checks.holds("broke in it", broke > 0);
        int consistency = loop.later(300, 2);
        Checks.due("paper", loop.run(200) + loop.run(100), made);
        Checks.due("broke", loop.chest(1, 0), broke);
        Checks.due("consistency", loop.chest(3, 2), consistency);
        Checks.due("flow", loop.setting(2), 500);
    }

    /** "0 the paper that is made in them; 1 the fibre that is spilled in them". */
    private static void laterTellsOfTheseTicksAlone() {
        BrokeLoop loop = new BrokeLoop();
        loop.fill(1, 5000, 50000);
        loop.run(10);
        Checks.holds("spilled and paper before", loop.account(3) > 0 && loop.account(2) > 0);
        Checks.due("spilled", loop.later(1, 1), 0);
        int made = loop.later(1, 0);
        Checks.due("paper", loop.run(1), made);
    }

    private static void laterWithTheSchedule() {
        BrokeLoop loop = Checks.planned("f1:0 f3:500");
        Checks.due("paper of 2 ticks without a flow", loop.later(2, 0), 0);
        // 480 in 12000, then the inflow: 520 in 13000, of which 500 have 20.
        Checks.due("paper of the third tick", loop.later(3, 0), 20);
        loop.run(3);
        Checks.due("the schedule is still to be carried out", loop.account(2), 20);
    }

    /** "What would be: everything happens in a copy". */
    private static void everythingHappensInACopy() {
        BrokeLoop loop = Checks.planned("b3:4 g9:2 f12:900");
        loop.fill(1, 4000, 25000);
        loop.run(2);
        loop.keep(0);
        String before = Checks.wholeView(loop);
        for (int what = 0; what < 4; what++) {
            loop.later(300, what);
        }
        loop.overflow();
        loop.bestLimit(100);
        Checks.same("forecasts change nothing", Checks.wholeView(loop), before);
        Checks.due("the image", loop.back(0), 2);
        loop.undo();
        Checks.due("what can be undone", loop.undo(), 2);
        Checks.due("clock", loop.told(0), 0);
    }

    /** No forecast leaves anything for the next one. */
    private static void copyIsMadeAnew() {
        BrokeLoop loop = Checks.planned("b3:4 g9:2 f12:900");
        loop.fill(1, 4000, 25000);
        int paper = loop.later(40, 0);
        int overflow = loop.overflow();
        int best = loop.bestLimit(40);
        int broke = loop.later(40, 3);
        for (int i = 0; i < 3; i++) {
            loop.later(300, 1);
            loop.bestLimit(100);
            Checks.due("overflow() again", loop.overflow(), overflow);
            Checks.due("later() again", loop.later(40, 0), paper);
            Checks.due("bestLimit() again", loop.bestLimit(40), best);
            Checks.due("later() again", loop.later(40, 3), broke);
        }
    }

    /** A loop without a flow, whose broke chest has this mass of water, and gets this spray. */
    private static BrokeLoop still(int water, int spray) {
        BrokeLoop loop = new BrokeLoop();
        loop.set(2, 0);
        loop.set(7, spray);
        loop.fill(1, 0, water);
        return loop;
    }

    /** "Returns the number of ticks, 1 to 300". */
    private static void overflowInTheFirstTick() {
        Checks.due("overflow() of a full chest", still(30000, 1).overflow(), 1);
        Checks.due("one beyond the room at once", still(29501, 500).overflow(), 1);
        Checks.due("the greatest spray", still(28001, 2000).overflow(), 1);
    }

    /** A chest that is just filled up to its room does not spill. */
    private static void overflowToTheRoom() {
        Checks.due("just to the room at first", still(29500, 500).overflow(), 2);
        Checks.due("one below the room at first", still(29499, 500).overflow(), 2);
        Checks.due("from an empty chest", still(0, 2000).overflow(), 16);
        Checks.due("from an empty chest, just beyond", still(1, 2000).overflow(), 15);
    }

    /** "NONE if it does not within 300 ticks". */
    private static void overflowInTheLastTick() {
        Checks.due("in the 299th", still(101, 100).overflow(), 299);
        Checks.due("in the 300th", still(1, 100).overflow(), 300);
        Checks.due("in the 300th with all of its spray", still(100, 100).overflow(), 300);
        Checks.due("in the 301st", still(0, 100).overflow(), NONE);
        Checks.due("never", still(0, 0).overflow(), NONE);
    }

    private static void overflowOfAFullChest() {
        Checks.due("a full chest into which nothing comes", still(30000, 0).overflow(), NONE);
        BrokeLoop loop = new BrokeLoop();
        loop.set(7, 0);
        loop.set(3, 0);
        loop.fill(1, 0, 30000);
        Checks.due("fibre alone spills", loop.overflow(), 1);
    }

    /** "After how many ticks the broke chest spills in step 6": what others spill, or spilled before, is not it. */
    private static void overflowOfStepSixAlone() {
        BrokeLoop loop = still(0, 0);
        loop.fill(0, 5000, 50000);
        loop.fill(3, 5000, 50000);
        Checks.due("the pulp chest spills", loop.overflow(), NONE);
        loop = still(30000, 0);
        loop.fill(1, 5000, 50000);
        Checks.due("the broke chest has spilled before", loop.overflow(), NONE);
        loop = new BrokeLoop();
        loop.fill(1, 0, 30000);
        loop.set(7, 136);
        Checks.holds("what is taken in step 3 makes room", loop.overflow() > 1);
        loop.set(7, 137);
        Checks.due("one more than the room", loop.overflow(), 1);
    }

    /** "(The schedule is carried out besides)." */
    private static void overflowWithTheSchedule() {
        BrokeLoop loop = still(29990, 0);
        loop.set(3, 0);
        Checks.plan(loop, "f7:500");
        Checks.due("the flow brings fibre in its tick", loop.overflow(), 7);
        loop = still(0, 100);
        Checks.plan(loop, "b1:1 b150:50 b290:9 g200:3");
        Checks.due("breaks of the schedule change nothing", loop.overflow(), NONE);
        loop.fill(1, 0, 1);
        Checks.due("breaks of the schedule change nothing", loop.overflow(), 300);
    }

    /** "The sheet being broken in all of them", however long it is broken now. */
    private static void overflowOfABrokenSheet() {
        int[] broken = {1, 2, 50};
        for (int ticks : broken) {
            BrokeLoop loop = still(1, 100);
            loop.tear(ticks);
            Checks.due("broken for " + ticks, loop.overflow(), 300);
            Checks.due("still broken for " + ticks, loop.told(2), ticks);
        }
    }

    private static void overflowOffGrade() {
        BrokeLoop loop = still(1, 100);
        loop.change(2);
        Checks.due("off grade", loop.overflow(), 300);
        loop.set(8, 0);
        loop.change(1);
        Checks.due("another grade than that of the broke", loop.overflow(), 300);
        Checks.due("grade of the broke", loop.told(5), 0);
    }

    /** "n: the number of ticks, 1 to 100". */
    private static void ticksOfBestLimit() {
        BrokeLoop loop = new BrokeLoop();
        int[] wrong = {0, 101, -1, LOW, HIGH};
        for (int n : wrong) {
            Checks.due("bestLimit(" + n + ")", loop.bestLimit(n), BAD);
        }
        int[] right = {1, 2, 99, 100};
        for (int n : right) {
            Checks.holds("bestLimit(" + n + ")", loop.bestLimit(n) >= 0);
        }
    }

    /** A loop with this fibre in the broke chest, and with pulp of 40 thousandths. */
    private static BrokeLoop withBroke(int fibre) {
        BrokeLoop loop = new BrokeLoop();
        loop.fill(1, fibre, 0);
        return loop;
    }

    /** "One of 0, 50, 100 and so on up to 1000". */
    private static void leastLimit() {
        BrokeLoop loop = new BrokeLoop();
        loop.fill(1, 0, 30000);
        Checks.due("broke of water alone", loop.bestLimit(1), 0);
    }

    private static void greatestLimit() {
        Checks.due("broke of fibre alone", withBroke(5000).bestLimit(1), 1000);
        Checks.due("480 of it: all, or 475 and 1 of pulp", withBroke(480).bestLimit(1), 1000);
    }

    private static void limitsNextToThem() {
        Checks.due("25 of fibre", withBroke(25).bestLimit(1), 50);
        Checks.due("50 of fibre", withBroke(50).bestLimit(1), 100);
        Checks.due("475 of fibre", withBroke(475).bestLimit(1), 950);
        Checks.due("450 of fibre", withBroke(450).bestLimit(1), 900);
    }

    /** "Of several the least one". */
    private static void leastOfSeveral() {
        Checks.due("no broke", new BrokeLoop().bestLimit(1), 0);
        Checks.due("no broke", withBroke(0).bestLimit(1), 0);
        BrokeLoop loop = withBroke(5000);
        loop.set(2, 0);
        Checks.due("no flow", loop.bestLimit(100), 0);
        loop = withBroke(5000);
        loop.tear(50);
        Checks.due("no paper", loop.bestLimit(50), 0);
        loop = withBroke(5000);
        loop.set(8, 20);
        loop.change(1);
        Checks.due("no paper off grade", loop.bestLimit(20), 0);
    }

    /** What the limit is now does not matter, and stays. */
    private static void limitOfTheSetting() {
        int[] limits = {0, 1, 333, 999, 1000};
        for (int limit : limits) {
            BrokeLoop loop = withBroke(166);
            loop.set(3, limit);
            Checks.due("bestLimit(1) at the limit " + limit, loop.bestLimit(1), 350);
            Checks.due("the limit stays", loop.setting(3), limit);
        }
    }

    private static void limitWithTheSchedule() {
        BrokeLoop loop = withBroke(5000);
        Checks.plan(loop, "f1:0");
        Checks.due("no flow by the schedule", loop.bestLimit(100), 0);
        Checks.plan(loop, "b1:50");
        Checks.due("broken by the schedule", loop.bestLimit(50), 0);
        Checks.holds("a tick more", loop.bestLimit(51) > 0);
    }

    /** The last one of the most ticks counts: with paper in it alone, the best limit is that of its paper. */
    private static void limitOfTheMostTicks() {
        BrokeLoop loop = withBroke(5000);
        Checks.plan(loop, "b1:50 b51:50");
        Checks.due("no paper in 100 ticks", loop.bestLimit(100), 0);
        Checks.plan(loop, "b1:50 b51:49");
        Checks.due("no paper in the first 99", loop.bestLimit(99), 0);
        int best = bestOfThe(loop);
        Checks.holds("paper in the 100th", best > 0);
        Checks.due("the best limit of 100 ticks", loop.bestLimit(100), best);
    }

    private static int bestOfThe(BrokeLoop loop) {
        int best = 0;
        int most = -1;
        for (int limit = 0; limit <= 1000; limit += 50) {
            loop.set(3, limit);
            int made = loop.later(100, 0);
            if (made > most) {
                most = made;
                best = limit;
            }
        }
        return best;
    }
}
