/** Fixed runs of calls, and the laws that hold behind each of them. */
public final class LawsTest {
    private static final int[] ROOMS = {20000, 30000, 10000, 10000};
    private static final String[] TEXTS = {"", "b3:4 g7:1 f9:700", "g1:1 g1:2 b2:50", "f5:0 f9:2000 b7:3 g30:3",
            "b1:1 b", "g9:4", "f200:1500 b260:20 g270:2 g280:1"};
    private static final int BAD = BrokeLoop.BAD, STATE = BrokeLoop.STATE;

    private static long seed = 1;

    private LawsTest() {
    }

    public static void main(String[] args) {
        for (int round = 1; round <= 400; round++) {
            seed = round;
            changesAreUndone(round);
        }
        for (int round = 1; round <= 60; round++) {
            seed = 1000 + round;
            forecastsComeTrue(round);
        }
        for (int round = 1; round <= 200; round++) {
            seed = 5000 + round;
            anyCallsEnd();
        }
        Checks.end("LawsTest");
    }

    private static int next(int bound) {
        seed = seed * 6364136223846793005L + 1442695040888963407L;
        return (int) ((seed >>> 33) % bound);
    }

    private static int someChange(BrokeLoop loop) {
        switch (next(12)) {
            case 0: return loop.set(next(9), next(60));
            case 1: return loop.set(2, next(2001));
            case 2: return loop.tear(1 + next(50));
            case 3: return loop.change(next(4));
            case 4: return loop.fill(next(4), next(5001), next(50001));
            case 5: return loop.drain(next(4), 1 + next(30000));
            case 6: return loop.begin();
            case 7: return loop.back(next(2));
            case 8:
                Checks.write(loop, TEXTS[next(TEXTS.length)]);
                return loop.plan();
            default: return loop.run(1 + next(next(4) == 0 ? 200 : 20));
        }
    }

    /** So few changes that an object gets no more than 512 calls. */
    private static void changesAreUndone(int round) {
        BrokeLoop loop = new BrokeLoop();
        for (int i = next(4); i > 0; i--) {
            someChange(loop);
            loop.keep(next(2));
        }
        int first = loop.told(12);
        String[] views = new String[2];
        int done = 0;
        for (int i = 0; i < 2; i++) {
            views[done] = Checks.view(loop);
            int answer = someChange(loop);
            if (answer == BAD || answer == STATE) {
                Checks.same("round " + round + ": a code changes nothing", Checks.view(loop), views[done]);
            } else {
                done++;
                Checks.due("round " + round + ": changes", loop.told(12), first + done);
            }
        }
        balance(loop);
        while (done > 0) {
            done--;
            Checks.due("round " + round + ": undo()", loop.undo(), first + done);
            Checks.same("round " + round + ": a change is undone", Checks.view(loop), views[done]);
        }
    }

    private static void balance(BrokeLoop loop) {
        int came = loop.account(0) + loop.account(1) + loop.account(6);
        int went = loop.account(2) + loop.account(3) + loop.account(4) + loop.account(5);
        Checks.due("the account", went, came);
        for (int chest = 0; chest < 4; chest++) {
            int fibre = loop.chest(chest, 0);
            int water = loop.chest(chest, 1);
            Checks.holds("fibre and water have their room", fibre >= 0 && water >= 0 && fibre + water <= ROOMS[chest]
                    && loop.chest(chest, 3) == ROOMS[chest] - fibre - water && loop.chest(chest, 4) <= ROOMS[chest]);
        }
        Checks.holds("the valve has its bounds", loop.told(4) >= 0 && loop.told(4) <= 3000);
    }

    private static void forecastsComeTrue(int round) {
        BrokeLoop loop = new BrokeLoop();
        for (int i = 0; i < 15; i++) {
            someChange(loop);
            int n = 1 + next(200);
            int[] told = {loop.later(n, 0), loop.later(n, 1), loop.later(n, 2), loop.later(n, 3)};
            int spilled = loop.account(3);
            Checks.due("round " + round + ": paper", loop.run(n), told[0]);
            Checks.due("round " + round + ": spilled", loop.account(3) - spilled, told[1]);
            Checks.due("round " + round + ": consistency", loop.chest(3, 2), told[2]);
            Checks.due("round " + round + ": broke", loop.chest(1, 0), told[3]);
            loop.undo();
            theFullBrokeChest(loop);
        }
    }

    /** A broke chest that spills is full at the end of that tick, and was not made so before. */
    private static void theFullBrokeChest(BrokeLoop loop) {
        int ticks = loop.overflow();
        if (ticks > 0 && ticks <= 50) {
            loop.tear(50);
            loop.run(ticks);
            Checks.due("the broke chest that spills has no room", loop.chest(1, 3), 0);
            loop.undo();
            loop.undo();
        }
    }

    private static int anyNumber() {
        switch (next(6)) {
            case 0: return next(10) - 3;
            case 1: return Integer.MIN_VALUE + next(3);
            case 2: return Integer.MAX_VALUE - next(3);
            case 3: return next(60000) - 5000;
            default: return next(130);
        }
    }

    private static void anyCallsEnd() {
        BrokeLoop loop = new BrokeLoop();
        for (int i = 0; i < 300; i++) {
            int a = next(3) == 0 ? anyNumber() : next(9);
            int b = anyNumber();
            anyCall(loop, next(24), a, b);
            if (i % 60 == 59) {
                balance(loop);
            }
        }
    }

    private static void anyCall(BrokeLoop loop, int which, int a, int b) {
        switch (which) {
            case 0: loop.begin(); break;
            case 1: loop.set(a, b); break;
            case 2: loop.tear(a); break;
            case 3: loop.change(a); break;
            case 4: loop.fill(a, b, anyNumber()); break;
            case 5: loop.drain(a, b); break;
            case 6: loop.plan(); break;
            case 7: case 8: case 9: loop.run(a); break;
            case 10: loop.undo(); break;
            case 11: loop.write(next(2) == 0 ? b : "bgf01239: ".charAt(next(10))); break;
            case 12: loop.wipe(); break;
            default: anyQuestion(loop, which, a, b); break;
        }
    }

    private static void anyQuestion(BrokeLoop loop, int which, int a, int b) {
        switch (which) {
            case 13: loop.fault(a); break;
            case 14: loop.told(a); break;
            case 15: loop.setting(a); break;
            case 16: loop.chest(a, b); break;
            case 17: loop.account(a); break;
            case 18: loop.paper(a); break;
            case 19: loop.entry(a, b); break;
            case 20: loop.later(b, a); break;
            case 21: loop.overflow(); break;
            case 22: loop.bestLimit(b); break;
            default:
                loop.keep(a);
                loop.back(b);
                float share = loop.paperShare();
                Checks.holds("a share is one", share >= 0.0f && share <= 1.0f);
                break;
        }
    }
}
