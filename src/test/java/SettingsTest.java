/** SETTINGS, with promises 3 (set) and 15 (setting): the least and the greatest value of each, and what they do. */
public final class SettingsTest {
    private static final int BAD = BrokeLoop.BAD;
    private static final int LOW = Integer.MIN_VALUE, HIGH = Integer.MAX_VALUE;
    private static final int[] LEAST = {0, 0, 0, 0, 1, 0, 0, 0, 0};
    private static final int[] MOST = {200, 5000, 2000, 1000, 100, 8, 50, 2000, 20};
    private static final int[] FIRST = {40, 960, 500, 300, 30, 3, 10, 500, 5};

    public static void main(String[] args) {
        firstValues();
        whichSettings();
        leastValues();
        greatestValues();
        valuesBelow();
        valuesAbove();
        previousValues();
        theSameValue();
        inflow();
        inflowWater();
        flow();
        limit();
        target();
        delay();
        gain();
        spray();
        offGradeTime();
        grades();
        Checks.end("SettingsTest");
    }

    private static void firstValues() {
        BrokeLoop loop = new BrokeLoop();
        for (int setting = 0; setting < 9; setting++) {
            Checks.due("setting(" + setting + ") at first", loop.setting(setting), FIRST[setting]);
        }
    }

    /** "BAD if there is no such setting": 0 to 8. */
    private static void whichSettings() {
        BrokeLoop loop = new BrokeLoop();
        int[] wrong = {-1, 9, 10, LOW, HIGH};
        for (int setting : wrong) {
            for (int value = 0; value <= 5; value++) {
                Checks.due("set(" + setting + ", " + value + ")", loop.set(setting, value), BAD);
            }
            Checks.due("setting(" + setting + ")", loop.setting(setting), BAD);
        }
        Checks.due("set(0, 1), the first setting", loop.set(0, 1), 40);
        Checks.due("set(8, 1), the last setting", loop.set(8, 1), 5);
    }

    private static void settingIsAlone(BrokeLoop loop, int setting, int value) {
        for (int other = 0; other < 9; other++) {
            Checks.due("setting(" + other + ")", loop.setting(other), other == setting ? value : FIRST[other]);
        }
    }

    private static void leastValues() {
        for (int setting = 0; setting < 9; setting++) {
            BrokeLoop loop = new BrokeLoop();
            Checks.due("set(" + setting + ", least)", loop.set(setting, LEAST[setting]), FIRST[setting]);
            settingIsAlone(loop, setting, LEAST[setting]);
            Checks.due("set(" + setting + ", least + 1)", loop.set(setting, LEAST[setting] + 1), LEAST[setting]);
            settingIsAlone(loop, setting, LEAST[setting] + 1);
        }
    }

    private static void greatestValues() {
        for (int setting = 0; setting < 9; setting++) {
            BrokeLoop loop = new BrokeLoop();
            Checks.due("set(" + setting + ", most)", loop.set(setting, MOST[setting]), FIRST[setting]);
            settingIsAlone(loop, setting, MOST[setting]);
            Checks.due("set(" + setting + ", most - 1)", loop.set(setting, MOST[setting] - 1), MOST[setting]);
            settingIsAlone(loop, setting, MOST[setting] - 1);
        }
    }

    private static void refused(int setting, int value) {
        BrokeLoop loop = new BrokeLoop();
        Checks.due("set(" + setting + ", " + value + ")", loop.set(setting, value), BAD);
        settingIsAlone(loop, -1, 0);
        Checks.due("changes", loop.told(12), 0);
    }

    /** "BAD if [..] the value is out of its range". */
    private static void valuesBelow() {
        for (int setting = 0; setting < 9; setting++) {
            refused(setting, LEAST[setting] - 1);
            refused(setting, LEAST[setting] - 2);
            refused(setting, LOW);
        }
    }

    private static void valuesAbove() {
        for (int setting = 0; setting < 9; setting++) {
            refused(setting, MOST[setting] + 1);
            refused(setting, MOST[setting] + 2);
            refused(setting, HIGH);
        }
    }

    /** "Returns the previous value". */
    private static void previousValues() {
        BrokeLoop loop = new BrokeLoop();
        Checks.due("set(2, 7)", loop.set(2, 7), 500);
        Checks.due("set(2, 9)", loop.set(2, 9), 7);
        Checks.due("set(2, 2001)", loop.set(2, 2001), BAD);
        Checks.due("set(2, 8)", loop.set(2, 8), 9);
    }

    /** A change "also if [it] changes nothing". */
    private static void theSameValue() {
        BrokeLoop loop = new BrokeLoop();
        Checks.due("set(6, 10)", loop.set(6, 10), 10);
        Checks.due("it is a change", loop.told(12), 1);
        Checks.due("undo()", loop.undo(), 0);
        Checks.due("setting(6)", loop.setting(6), 10);
    }

    private static BrokeLoop still() {
        BrokeLoop loop = new BrokeLoop();
        loop.set(2, 0);
        return loop;
    }

    private static void inflow() {
        BrokeLoop loop = still();
        loop.set(0, 0);
        loop.run(1);
        Checks.chestHas("inflow of water alone", loop, 0, 400, 10560);
        Checks.due("no inflow", loop.account(0), 0);
        loop.set(0, 200);
        loop.run(1);
        Checks.chestHas("the greatest inflow", loop, 0, 600, 11520);
        Checks.due("inflow", loop.account(0), 200);
    }

    private static void inflowWater() {
        BrokeLoop loop = still();
        loop.set(1, 0);
        loop.run(1);
        Checks.chestHas("inflow of fibre alone", loop, 0, 440, 9600);
        loop.set(1, 5000);
        loop.run(1);
        Checks.chestHas("the most water", loop, 0, 480, 14600);
        loop.set(0, 0);
        loop.set(1, 0);
        loop.run(1);
        Checks.chestHas("no inflow at all", loop, 0, 480, 14600);
    }

    private static void flow() {
        BrokeLoop loop = still();
        loop.fill(3, 100, 100);
        loop.fill(2, 100, 100);
        Checks.due("paper without a flow", loop.run(1), 0);
        Checks.chestHas("without a flow", loop, 0, 440, 10560);
        Checks.chestHas("without a flow", loop, 2, 100, 100);
        Checks.chestHas("without a flow", loop, 3, 100, 100);
        loop = new BrokeLoop();
        loop.set(2, 1);
        loop.run(1);
        Checks.due("a flow of 1", Checks.mass(loop, 0), 10999);
        loop.set(2, 2000);
        // 2000 with 2000 * 480 / 11999 = 80 of fibre.
        Checks.due("paper of the greatest flow", loop.run(1), 80);
        Checks.due("the greatest flow", Checks.mass(loop, 0), 9999);
    }

    private static BrokeLoop withBroke(int limit) {
        BrokeLoop loop = new BrokeLoop();
        loop.fill(1, 1000, 0);
        loop.set(3, limit);
        loop.run(1);
        return loop;
    }

    private static void limit() {
        BrokeLoop loop = withBroke(0);
        Checks.chestHas("limit 0", loop, 1, 1000, 0);
        Checks.due("reason at limit 0", loop.told(6), 1);
        loop = withBroke(1);
        Checks.chestHas("limit 1 of 500", loop, 1, 1000, 0);
        Checks.due("reason at limit 1", loop.told(6), 0);
        Checks.chestHas("limit 2 of 500", withBroke(2), 1, 999, 0);
        Checks.chestHas("limit 999 of 500", withBroke(999), 1, 501, 0);
        loop = withBroke(1000);
        Checks.chestHas("limit 1000 of 500", loop, 1, 500, 0);
        Checks.due("no pulp is taken then", Checks.mass(loop, 0), 11000);
    }

    /** A loop without delay, flow and inflow, whose machine chest has this consistency. */
    private static BrokeLoop measuring(int consistency) {
        BrokeLoop loop = still();
        loop.set(5, 0);
        loop.fill(3, consistency, 1000 - consistency);
        return loop;
    }

    private static void target() {
        BrokeLoop loop = measuring(101);
        loop.set(4, 100);
        loop.run(1);
        Checks.due("valve at the greatest target", loop.told(4), 10);
        loop = measuring(2);
        loop.set(4, 1);
        loop.run(1);
        Checks.due("valve at the least target", loop.told(4), 10);
        loop = measuring(30);
        loop.run(1);
        Checks.due("valve when the target is met", loop.told(4), 0);
    }

    private static void delay() {
        BrokeLoop loop = measuring(31);
        loop.run(1);
        Checks.due("valve without a delay", loop.told(4), 10);
        loop = measuring(31);
        loop.set(5, 8);
        loop.run(8);
        Checks.due("valve at the greatest delay, 8 ticks", loop.told(4), 0);
        loop.run(1);
        Checks.due("valve at the greatest delay, 9 ticks", loop.told(4), 10);
    }

    private static void gain() {
        BrokeLoop loop = measuring(40);
        loop.set(6, 0);
        loop.run(5);
        Checks.due("valve without a gain", loop.told(4), 0);
        loop.set(6, 1);
        loop.run(1);
        Checks.due("valve with the gain 1", loop.told(4), 10);
        loop.set(6, 50);
        loop.run(1);
        Checks.due("valve with the greatest gain", loop.told(4), 510);
        loop.set(6, 0);
        loop.run(5);
        Checks.due("valve without a gain stays", loop.told(4), 510);
    }

    private static void spray() {
        BrokeLoop loop = new BrokeLoop();
        loop.set(7, 0);
        loop.tear(3);
        loop.run(1);
        Checks.chestHas("without a spray", loop, 1, 20, 0);
        loop.set(3, 0);
        loop.set(7, 2000);
        loop.run(1);
        Checks.chestHas("the greatest spray", loop, 1, 40, 2000);
        loop.set(7, 1);
        loop.run(1);
        Checks.due("a spray of 1", loop.chest(1, 1), 2001);
        loop.run(1);
        Checks.due("no spray while paper is made", loop.chest(1, 1), 2001);
    }

    private static void offGradeTime() {
        BrokeLoop loop = new BrokeLoop();
        loop.set(8, 0);
        loop.change(1);
        Checks.due("no off grade time", loop.told(3), 0);
        Checks.due("paper at once", loop.run(1), 20);
        loop.set(8, 20);
        loop.change(2);
        Checks.due("the greatest off grade time", loop.told(3), 20);
        Checks.due("no paper for 20 ticks", loop.run(20), 0);
        Checks.holds("paper in the tick behind", loop.run(1) > 0);
        loop.set(8, 1);
        loop.change(3);
        Checks.due("no paper for 1 tick", loop.run(1), 0);
        Checks.holds("paper in the tick behind", loop.run(1) > 0);
    }

    /** "There are the grades 0 to 3; the grade is 0 at first." */
    private static void grades() {
        BrokeLoop loop = new BrokeLoop();
        Checks.due("the grade at first", loop.told(1), 0);
        int[] wrong = {-1, 4, LOW, HIGH};
        for (int grade : wrong) {
            Checks.due("change(" + grade + ")", loop.change(grade), BAD);
            Checks.due("paper(" + grade + ")", loop.paper(grade), BAD);
        }
        Checks.due("the grade stays", loop.told(1), 0);
        Checks.due("the greatest grade", loop.change(3), 0);
        Checks.due("the greatest grade is told", loop.told(1), 3);
        Checks.due("the least grade", loop.change(0), 3);
        Checks.due("the least grade is told", loop.told(1), 0);
    }
}
