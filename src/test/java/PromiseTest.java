/** Promise for promise: ordinary inputs, edges and wrong inputs. The text and the ticks have tests of their own. */
public final class PromiseTest {
    private static final int BAD = BrokeLoop.BAD, STATE = BrokeLoop.STATE, NONE = BrokeLoop.NONE;
    private static final int LOW = Integer.MIN_VALUE, HIGH = Integer.MAX_VALUE;
    private static final int[] LEAST = {0, 0, 0, 0, 1, 0, 0, 0, 0};
    private static final int[] MOST = {200, 5000, 2000, 1000, 100, 8, 50, 2000, 20};
    private static final int[] FIRST = {40, 960, 500, 300, 30, 3, 10, 500, 5};

    public static void main(String[] args) {
        newObject();
        begin();
        set();
        tear();
        change();
        fill();
        drain();
        run();
        undo();
        wrongCallsChangeNothing();
        told();
        chest();
        account();
        paper();
        paperShare();
        later();
        overflow();
        bestLimit();
        keepAndBack();
        Checks.end("PromiseTest");
    }

    private static void isAsAtFirst(String when, BrokeLoop loop) {
        int[] first = {0, 0, 0, 0, 0, 0, NONE, NONE};
        for (int what = 0; what < first.length; what++) {
            Checks.due(when + ": told(" + what + ")", loop.told(what), first[what]);
        }
        Checks.due(when + ": told(10)", loop.told(10), 0);
        int[] rooms = {20000, 30000, 10000, 10000};
        for (int chest = 0; chest < 4; chest++) {
            Checks.chestHas(when, loop, chest, chest == 0 ? 400 : 0, chest == 0 ? 9600 : 0);
            Checks.due(when + ": consistency", loop.chest(chest, 2), chest == 0 ? 40 : 0);
            Checks.due(when + ": room", loop.chest(chest, 3), rooms[chest] - (chest == 0 ? 10000 : 0));
            Checks.due(when + ": greatest", loop.chest(chest, 4), 0);
            Checks.due(when + ": paper(" + chest + ")", loop.paper(chest), 0);
        }
        for (int what = 0; what < 8; what++) {
            Checks.due(when + ": account(" + what + ")", loop.account(what), what == 5 || what == 6 ? 400 : 0);
        }
        Checks.due(when + ": paperShare()", loop.paperShare(), 0.0f);
    }

    private static void newObject() {
        BrokeLoop loop = new BrokeLoop();
        isAsAtFirst("new", loop);
        for (int setting = 0; setting < 9; setting++) {
            Checks.due("first setting " + setting, loop.setting(setting), FIRST[setting]);
        }
        Checks.due("entries", loop.told(8), 0);
        Checks.due("entries ahead", loop.told(9), 0);
        Checks.due("bytes", loop.told(11), 0);
        Checks.due("changes", loop.told(12), 0);
        Checks.due("fault(0)", loop.fault(0), NONE);
        Checks.due("fault(1)", loop.fault(1), NONE);
        Checks.due("undo()", loop.undo(), STATE);
        Checks.due("back(0)", loop.back(0), STATE);
        Checks.due("back(1)", loop.back(1), STATE);
    }

    private static void begin() {
        BrokeLoop loop = Checks.planned("g2:1 b4:3");
        loop.set(0, 77);
        loop.fill(1, 1000, 1000);
        loop.fill(3, 5000, 50000);
        loop.drain(1, 100);
        loop.keep(1);
        loop.change(2);
        loop.run(50);
        loop.tear(50);
        loop.change(3);
        String before = Checks.view(loop);
        int changes = loop.told(12);
        Checks.due("begin()", loop.begin(), 50);
        isAsAtFirst("begun", loop);
        Checks.due("setting stays", loop.setting(0), 77);
        Checks.due("schedule stays", loop.told(8), 2);
        Checks.due("text stays", loop.told(11), 9);
        Checks.due("begin() is a change", loop.told(12), Math.min(8, changes + 1));
        Checks.due("begin() again", loop.begin(), 0);
        loop.undo();
        loop.undo();
        Checks.holds("begin() is undone", Checks.view(loop).equals(before));
        Checks.due("images stay", loop.back(1), 0);
    }

    private static void set() {
        for (int setting = 0; setting < 9; setting++) {
            BrokeLoop loop = new BrokeLoop();
            String before = Checks.view(loop);
            int[] wrong = {LEAST[setting] - 1, MOST[setting] + 1, LOW, HIGH};
            for (int value : wrong) {
                Checks.due("set(" + setting + ", " + value + ")", loop.set(setting, value), BAD);
            }
            Checks.holds("wrong values change nothing", Checks.view(loop).equals(before) && loop.told(12) == 0);
            Checks.due("set() to the least", loop.set(setting, LEAST[setting]), FIRST[setting]);
            Checks.due("the least", loop.setting(setting), LEAST[setting]);
            Checks.due("set() to the most", loop.set(setting, MOST[setting]), LEAST[setting]);
            Checks.due("the most", loop.setting(setting), MOST[setting]);
            Checks.due("set() to the same", loop.set(setting, MOST[setting]), MOST[setting]);
            Checks.due("changes", loop.told(12), 3);
            for (int other = 0; other < 9; other++) {
                Checks.due("setting " + other + " besides", loop.setting(other),
                        other == setting ? MOST[setting] : FIRST[other]);
            }
        }
        int[] none = {-1, 9, LOW, HIGH};
        BrokeLoop loop = new BrokeLoop();
        for (int setting : none) {
            Checks.due("set(" + setting + ", 1)", loop.set(setting, 1), BAD);
            Checks.due("setting(" + setting + ")", loop.setting(setting), BAD);
        }
    }

    private static void tear() {
        BrokeLoop loop = new BrokeLoop();
        int[] wrong = {0, 51, -1, LOW, HIGH};
        for (int ticks : wrong) {
            Checks.due("tear(" + ticks + ")", loop.tear(ticks), BAD);
        }
        Checks.due("not broken", loop.told(2), 0);
        Checks.due("tear(1)", loop.tear(1), 1);
        Checks.due("tear(10)", loop.tear(10), 10);
        Checks.due("tear(9)", loop.tear(9), 10);
        Checks.due("tear(50)", loop.tear(50), 50);
        Checks.due("broken", loop.told(2), 50);
        Checks.due("changes, also those that change nothing", loop.told(12), 4);
        loop.run(49);
        Checks.due("broken", loop.told(2), 1);
        Checks.due("tear(2)", loop.tear(2), 2);
    }

    private static void change() {
        BrokeLoop loop = new BrokeLoop();
        int[] wrong = {-1, 4, LOW, HIGH};
        for (int grade : wrong) {
            Checks.due("change(" + grade + ")", loop.change(grade), BAD);
        }
        Checks.due("change(0)", loop.change(0), 0);
        Checks.due("the same grade", loop.told(3), 0);
        Checks.due("change(3)", loop.change(3), 0);
        Checks.due("grade", loop.told(1), 3);
        Checks.due("off grade time", loop.told(3), 5);
        Checks.due("changes, also those that change nothing", loop.told(12), 2);
        loop.run(2);
        loop.set(8, 20);
        Checks.due("change(3) again", loop.change(3), 3);
        Checks.due("off grade time goes on", loop.told(3), 3);
        Checks.due("change(1)", loop.change(1), 3);
        Checks.due("off grade time anew", loop.told(3), 20);
        loop.set(8, 0);
        loop.change(2);
        Checks.due("no off grade time", loop.told(3), 0);
    }

    private static void fill() {
        BrokeLoop loop = new BrokeLoop();
        int[][] wrong = {{-1, 0, 0}, {4, 0, 0}, {0, -1, 0}, {0, 5001, 0}, {0, 0, -1}, {0, 0, 50001},
                {LOW, 0, 0}, {HIGH, 0, 0}, {0, LOW, 0}, {0, HIGH, 0}, {0, 0, LOW}, {0, 0, HIGH}};
        for (int[] row : wrong) {
            Checks.due("fill of a wrong kind", loop.fill(row[0], row[1], row[2]), BAD);
        }
        Checks.due("given", loop.account(1), 0);
        Checks.due("fill of nothing", loop.fill(2, 0, 0), 0);
        Checks.due("changes", loop.told(12), 1);
        Checks.due("fill to the room", loop.fill(2, 5000, 5000), 0);
        Checks.chestHas("filled", loop, 2, 5000, 5000);
        // 5001 in 10003: of the surplus of 3, 3 * 5001 / 10003 = 1 is fibre.
        Checks.due("fill beyond the room", loop.fill(2, 1, 2), 1);
        Checks.chestHas("filled", loop, 2, 5000, 5000);
        Checks.due("given", loop.account(1), 5001);
        Checks.due("spilled", loop.account(3), 1);
        Checks.due("fill of the most", loop.fill(3, 5000, 50000), 45000 * 5000 / 55000);
        Checks.due("fill of pulp", loop.fill(0, 100, 200), 0);
        Checks.chestHas("filled", loop, 0, 500, 9800);
        Checks.due("fill of broke", loop.fill(1, 3, 4), 0);
        Checks.chestHas("filled", loop, 1, 3, 4);
        Checks.due("the grade of the broke stays", loop.told(5), 0);
        Checks.due("fill of the broke chest with water", loop.fill(1, 0, 29993), 0);
        Checks.due("room", loop.chest(1, 3), 0);
        loop.fill(1, 0, 1);
        Checks.due("one beyond the room", loop.chest(1, 3), 0);
        greatestSpill();
    }

    private static void greatestSpill() {
        BrokeLoop loop = new BrokeLoop();
        for (int i = 0; i < 6; i++) {
            Checks.due("fill with fibre", loop.fill(1, 5000, 0), 0);
        }
        Checks.due("fill of a chest full of fibre", loop.fill(1, 5000, 50000), (int) (55000L * 35000 / 85000));
        Checks.due("its sum", loop.chest(1, 3), 0);
        Checks.due("consistency", loop.chest(1, 2), (35000 - 22647) * 1000 / 30000);
    }

    private static void drain() {
        BrokeLoop loop = new BrokeLoop();
        int[][] wrong = {{-1, 1}, {4, 1}, {0, 0}, {0, 50001}, {0, -1}, {LOW, 1}, {HIGH, 1}, {0, LOW}, {0, HIGH}};
        for (int[] row : wrong) {
            Checks.due("drain of a wrong kind", loop.drain(row[0], row[1]), BAD);
        }
        Checks.due("changes", loop.told(12), 0);
        Checks.due("drain(0, 1)", loop.drain(0, 1), 0);
        Checks.chestHas("drained", loop, 0, 400, 9599);
        Checks.due("drain(0, 999)", loop.drain(0, 999), 39);
        Checks.chestHas("drained", loop, 0, 361, 8639);
        Checks.due("drain of more than there is", loop.drain(0, 50000), 361);
        Checks.chestHas("drained", loop, 0, 0, 0);
        Checks.due("drain of an empty chest", loop.drain(0, 1), 0);
        Checks.due("drained", loop.account(4), 400);
        Checks.due("changes", loop.told(12), 4);
        loop.fill(3, 7, 0);
        Checks.due("drain of fibre alone", loop.drain(3, 3), 3);
        Checks.chestHas("drained", loop, 3, 4, 0);
        loop.drain(3, 3);
        Checks.due("drain of the last one", loop.drain(3, 1), 1);
        Checks.chestHas("drained", loop, 3, 0, 0);
    }

    private static void run() {
        BrokeLoop loop = new BrokeLoop();
        int[] wrong = {0, 201, -1, LOW, HIGH};
        for (int n : wrong) {
            Checks.due("run(" + n + ")", loop.run(n), BAD);
        }
        Checks.due("clock", loop.told(0), 0);
        int made = loop.run(200);
        Checks.due("paper of 200 ticks", made, loop.account(2));
        Checks.due("clock", loop.told(0), 200);
        Checks.due("run is one change", loop.told(12), 1);
        int more = loop.run(1);
        Checks.due("paper of these ticks alone", made + more, loop.account(2));
        Checks.due("undo()", loop.undo(), 1);
        Checks.due("clock", loop.told(0), 200);
        Checks.due("undo()", loop.undo(), 0);
        isAsAtFirst("undone", loop);
        BrokeLoop steps = new BrokeLoop();
        int sum = 0;
        for (int i = 0; i < 200; i++) {
            sum += steps.run(1);
        }
        Checks.due("tick by tick", sum, made);
    }

    private static void undo() {
        BrokeLoop loop = new BrokeLoop();
        Checks.due("undo() of nothing", loop.undo(), STATE);
        for (int i = 1; i <= 20; i++) {
            loop.set(0, i);
            Checks.due("changes", loop.told(12), Math.min(i, 8));
        }
        for (int i = 7; i >= 0; i--) {
            Checks.due("undo()", loop.undo(), i);
            Checks.due("setting", loop.setting(0), 12 + i);
        }
        Checks.due("undo() beyond", loop.undo(), STATE);
        Checks.due("setting", loop.setting(0), 12);
        loop.set(0, 99);
        loop.set(0, 98);
        Checks.due("undo()", loop.undo(), 1);
        Checks.due("setting", loop.setting(0), 99);
        undoLeavesAlone();
    }

    private static void undoLeavesAlone() {
        BrokeLoop loop = Checks.planned("b1:1");
        Checks.write(loop, "b1:1 b");
        loop.set(0, 5);
        loop.plan();
        loop.keep(0);
        loop.undo();
        Checks.due("text stays", loop.told(11), 6);
        Checks.due("fault stays", loop.fault(1), 6);
        Checks.due("schedule", loop.told(8), 1);
        Checks.due("undo() of plan()", loop.undo(), 0);
        Checks.due("schedule", loop.told(8), 0);
        Checks.due("image stays", loop.back(0), 0);
        Checks.due("setting of the image", loop.setting(0), 5);
        Checks.due("schedule of the image", loop.told(8), 1);
    }

    private static void wrongCallsChangeNothing() {
        BrokeLoop loop = Checks.planned("g9:1");
        loop.run(12);
        Checks.write(loop, "q");
        String before = Checks.view(loop);
        int[] wrong = {loop.set(0, 201), loop.tear(0), loop.change(4), loop.fill(0, 1, 50001), loop.fill(0, 5001, 1),
                loop.drain(0, 0), loop.plan(), loop.run(0), loop.write(7), loop.keep(2), loop.back(2), loop.back(1)};
        for (int answer : wrong) {
            Checks.holds("a wrong call answers with a code", answer == BAD || answer == STATE);
        }
        Checks.holds("wrong calls change nothing", Checks.view(loop).equals(before));
        Checks.due("changes", loop.told(12), 2);
        Checks.due("bytes", loop.told(11), 1);
    }

    private static void told() {
        BrokeLoop loop = new BrokeLoop();
        int[] wrong = {-1, 13, LOW, HIGH};
        for (int what : wrong) {
            Checks.due("told(" + what + ")", loop.told(what), BAD);
        }
        loop = Checks.planned("b3:4 f8:100");
        loop.change(1);
        loop.run(4);
        // In the last tick 150 of broke with 48 in 1258 bring 5 of fibre, 350 of pulp 14: 19 in 500.
        int[] due = {4, 1, 2, 1, 100, 1, 0, 38, 2, 1, 4, 11, 3};
        for (int what = 0; what < due.length; what++) {
            Checks.due("told(" + what + ")", loop.told(what), due[what]);
        }
    }

    private static void chest() {
        BrokeLoop loop = new BrokeLoop();
        int[] wrong = {-1, 4, LOW, HIGH};
        for (int chest : wrong) {
            Checks.due("chest(" + chest + ", 0)", loop.chest(chest, 0), BAD);
        }
        int[] wrongWhats = {-1, 5, LOW, HIGH};
        for (int what : wrongWhats) {
            Checks.due("chest(0, " + what + ")", loop.chest(0, what), BAD);
        }
        loop.fill(1, 2, 1);
        Checks.due("consistency", loop.chest(1, 2), 666);
        Checks.due("room", loop.chest(1, 3), 29997);
        loop.fill(2, 1, 0);
        Checks.due("consistency of fibre alone", loop.chest(2, 2), 1000);
        loop.fill(3, 0, 1);
        Checks.due("consistency of water alone", loop.chest(3, 2), 0);
    }

    private static void account() {
        BrokeLoop loop = new BrokeLoop();
        int[] wrong = {-1, 8, LOW, HIGH};
        for (int what : wrong) {
            Checks.due("account(" + what + ")", loop.account(what), BAD);
        }
        loop.set(0, 200);
        loop.set(1, 0);
        loop.fill(2, 5000, 6000);
        loop.tear(3);
        loop.run(20);
        loop.drain(2, 777);
        loop.change(1);
        loop.run(30);
        int came = loop.account(0) + loop.account(1) + loop.account(6);
        int went = loop.account(2) + loop.account(3) + loop.account(4) + loop.account(5);
        Checks.due("what came is what went", went, came);
        Checks.due("inflow", loop.account(0), 10000);
        Checks.due("given", loop.account(1), 5000);
        Checks.due("at the beginning", loop.account(6), 400);
        int inChests = 0;
        for (int chest = 0; chest < 4; chest++) {
            inChests += loop.chest(chest, 0);
        }
        Checks.due("in all chests", loop.account(5), inChests);
    }

    private static void paper() {
        BrokeLoop loop = new BrokeLoop();
        int[] wrong = {-1, 4, LOW, HIGH};
        for (int grade : wrong) {
            Checks.due("paper(" + grade + ")", loop.paper(grade), BAD);
        }
        int[] made = new int[4];
        for (int grade = 0; grade < 4; grade++) {
            loop.change(grade);
            made[grade] = loop.run(7 + grade);
        }
        for (int grade = 0; grade < 4; grade++) {
            Checks.holds("some paper is made", made[grade] > 0);
            Checks.due("paper(" + grade + ")", loop.paper(grade), made[grade]);
        }
        Checks.due("paper of all grades", loop.account(2), made[0] + made[1] + made[2] + made[3]);
    }

    private static void paperShare() {
        BrokeLoop loop = new BrokeLoop();
        loop.run(1);
        Checks.due("share of paper alone", loop.paperShare(), 1.0f);
        loop.tear(2);
        loop.set(3, 0);
        loop.run(2);
        Checks.due("share of 20 in 60", loop.paperShare(), (float) 20 / (float) 60);
        loop.begin();
        Checks.due("share of none", loop.paperShare(), 0.0f);
        loop.tear(1);
        loop.run(1);
        Checks.due("share without paper", loop.paperShare(), 0.0f);
    }

    private static void later() {
        BrokeLoop loop = new BrokeLoop();
        int[][] wrong = {{0, 0}, {301, 0}, {1, -1}, {1, 4}, {LOW, 0}, {HIGH, 0}, {1, LOW}, {1, HIGH}};
        for (int[] row : wrong) {
            Checks.due("later of a wrong kind", loop.later(row[0], row[1]), BAD);
        }
        loop = Checks.planned("b3:4 g20:2 f30:2000 b40:3");
        loop.fill(1, 3000, 26000);
        loop.fill(3, 3000, 9000);
        loop.run(1);
        int spilled = loop.account(3);
        String before = Checks.view(loop);
        int[] due = {loop.later(150, 0), loop.later(150, 1), loop.later(150, 2), loop.later(150, 3)};
        Checks.holds("later() changes nothing", Checks.view(loop).equals(before));
        Checks.due("the paper of later()", loop.run(150), due[0]);
        Checks.due("what is spilled", loop.account(3) - spilled, due[1]);
        Checks.due("the consistency", loop.chest(3, 2), due[2]);
        Checks.due("the broke", loop.chest(1, 0), due[3]);
        BrokeLoop far = new BrokeLoop();
        int most = far.later(300, 0);
        Checks.due("300 ticks", far.run(200) + far.run(100), most);
    }

    /** A loop without a flow, whose broke chest has a mass of water. */
    private static BrokeLoop still(int water, int spray) {
        BrokeLoop loop = new BrokeLoop();
        loop.set(2, 0);
        loop.set(7, spray);
        loop.fill(1, 0, water);
        return loop;
    }

    private static void overflow() {
        Checks.due("to the room and beyond", still(29500, 500).overflow(), 2);
        Checks.due("beyond at once", still(29501, 500).overflow(), 1);
        Checks.due("300 ticks that just fit", still(0, 100).overflow(), NONE);
        Checks.due("in the 300th tick", still(1, 100).overflow(), 300);
        Checks.due("without a spray", still(30000, 0).overflow(), NONE);
        BrokeLoop loop = still(29500, 500);
        String before = Checks.view(loop);
        loop.overflow();
        Checks.holds("overflow() changes nothing", Checks.view(loop).equals(before) && loop.told(2) == 0);
        loop.tear(1);
        Checks.due("of a sheet that is broken", loop.overflow(), 2);
        loop = still(20000, 0);
        loop.set(3, 0);
        loop.fill(1, 0, 9990);
        Checks.write(loop, "b3:1 f5:500 b299:50");
        loop.plan();
        // The flow starts in tick 5 and brings 23 of fibre at once.
        Checks.due("with the schedule", loop.overflow(), 5);
        loop = new BrokeLoop();
        loop.fill(1, 0, 30000);
        loop.set(7, 120);
        Checks.due("what is taken makes room", loop.overflow() == 1 ? 1 : 0, 0);
        // The pulp that is taken besides, 350, has 14 of fibre.
        loop.set(7, 137);
        Checks.due("151 where 150 were taken", loop.overflow(), 1);
        loop.set(7, 136);
        Checks.holds("150 where 150 were taken", loop.overflow() > 1);
    }

    private static void bestLimit() {
        BrokeLoop loop = new BrokeLoop();
        int[] wrong = {0, 101, -1, LOW, HIGH};
        for (int n : wrong) {
            Checks.due("bestLimit(" + n + ")", loop.bestLimit(n), BAD);
        }
        Checks.due("of several the least", loop.bestLimit(1), 0);
        loop.fill(1, 5000, 0);
        Checks.due("broke of fibre alone", loop.bestLimit(1), 1000);
        String before = Checks.view(loop);
        loop.bestLimit(100);
        Checks.holds("bestLimit() changes nothing", Checks.view(loop).equals(before) && loop.setting(3) == 300);
        loop.change(1);
        loop.set(8, 0);
        loop.change(2);
        Checks.due("broke of another grade", loop.bestLimit(100), 0);
        BrokeLoop water = new BrokeLoop();
        water.fill(1, 0, 30000);
        Checks.due("broke of water", water.bestLimit(10), 0);
        isTheBest(Checks.planned("b3:4 f12:700 b30:2"), 100);
        BrokeLoop shared = new BrokeLoop();
        shared.tear(5);
        shared.run(14);
        isTheBest(shared, 50);
        isTheBest(shared, 1);
        BrokeLoop little = new BrokeLoop();
        little.fill(1, 250, 0);
        little.set(3, 777);
        Checks.due("as much as there is", little.bestLimit(1), 500);
    }

    private static void isTheBest(BrokeLoop loop, int n) {
        int best = 0;
        int most = -1;
        int answer = loop.bestLimit(n);
        for (int limit = 0; limit <= 1000; limit += 50) {
            loop.set(3, limit);
            int made = loop.later(n, 0);
            loop.undo();
            if (made > most) {
                most = made;
                best = limit;
            }
        }
        Checks.due("bestLimit(" + n + ")", answer, best);
    }

    private static void keepAndBack() {
        BrokeLoop loop = Checks.planned("b9:1");
        int[] wrong = {-1, 2, LOW, HIGH};
        for (int i : wrong) {
            Checks.due("keep(" + i + ")", loop.keep(i), BAD);
            Checks.due("back(" + i + ")", loop.back(i), BAD);
        }
        loop.run(7);
        Checks.due("keep(1)", loop.keep(1), 7);
        Checks.due("keep() is no change", loop.told(12), 2);
        Checks.due("back(0) of nothing", loop.back(0), STATE);
        String kept = Checks.view(loop);
        loop.change(1);
        loop.set(2, 900);
        loop.tear(3);
        loop.wipe();
        loop.plan();
        loop.run(5);
        String later = Checks.view(loop);
        Checks.due("keep(0)", loop.keep(0), 12);
        Checks.due("back(1)", loop.back(1), 7);
        Checks.holds("back(1) brings the image", Checks.view(loop).equals(kept));
        Checks.due("the text is not kept", loop.told(11), 0);
        Checks.due("back() is a change", loop.told(12), 8);
        Checks.due("back(0)", loop.back(0), 12);
        Checks.holds("back(0) brings the other image", Checks.view(loop).equals(later));
        loop.undo();
        Checks.holds("back(0) is undone", Checks.view(loop).equals(kept));
        loop.undo();
        Checks.holds("back(1) is undone", Checks.view(loop).equals(later));
        loop.set(0, 1);
        Checks.due("the image stays", loop.back(1), 7);
        Checks.holds("the image stays as it was", Checks.view(loop).equals(kept));
        loop.begin();
        Checks.due("keep(1) replaces", loop.keep(1), 0);
        loop.run(3);
        Checks.due("back(1)", loop.back(1), 0);
    }
}
