/** Counts answers that are not as due, and ends the program with the code 1 if there was one. */
final class Checks {
    private static final int MOST_TOLD = 40;

    private static int done = 0;
    private static int wrong = 0;

    private Checks() {
    }

    static void due(String what, double got, double want) {
        done++;
        if (got != want) {
            isWrong(what + " answered " + got + ", due is " + want);
        }
    }

    static void due(String what, int got, int want) {
        due(what, (double) got, (double) want);
    }

    static void holds(String what, boolean held) {
        done++;
        if (!held) {
            isWrong(what + " does not hold");
        }
    }

    static void same(String what, String got, String want) {
        done++;
        if (!got.equals(want)) {
            isWrong(what + ": seen is\n  " + got + "\ndue is\n  " + want);
        }
    }

    private static void isWrong(String what) {
        wrong++;
        if (wrong <= MOST_TOLD) {
            System.out.println(what);
        }
    }

    static void end(String name) {
        System.out.println(name + ": " + done + " checks, " + wrong + " wrong");
        if (wrong != 0 || done == 0) {
            System.exit(1);
        }
    }

    static void write(BrokeLoop loop, String text) {
        loop.wipe();
        for (int i = 0; i < text.length(); i++) {
            due("write of '" + text + "' at " + i, loop.write(text.charAt(i)), i + 1);
        }
    }

    static BrokeLoop planned(String text) {
        BrokeLoop loop = new BrokeLoop();
        plan(loop, text);
        return loop;
    }

    static void plan(BrokeLoop loop, String text) {
        write(loop, text);
        holds("plan() of '" + text + "'", loop.plan() >= 0);
    }

    static void chestHas(String when, BrokeLoop loop, int chest, int fibre, int water) {
        due(when + ": fibre of chest " + chest, loop.chest(chest, 0), fibre);
        due(when + ": water of chest " + chest, loop.chest(chest, 1), water);
    }

    static int mass(BrokeLoop loop, int chest) {
        return loop.chest(chest, 0) + loop.chest(chest, 1);
    }

    static void empty(BrokeLoop loop, int chest) {
        loop.drain(chest, 50000);
        due("mass of the emptied chest " + chest, mass(loop, chest), 0);
    }

    /** What can be seen of a loop, but for what undo leaves alone, in some 60 calls: an object has 512 of them. */
    static String view(BrokeLoop loop) {
        StringBuilder seen = new StringBuilder();
        for (int what = 0; what <= 10; what++) {
            seen.append(" t").append(loop.told(what));
        }
        for (int setting = 0; setting < 9; setting++) {
            seen.append(" s").append(loop.setting(setting));
        }
        for (int chest = 0; chest < 4; chest++) {
            for (int what = 0; what < 5; what++) {
                seen.append(" c").append(loop.chest(chest, what));
            }
        }
        for (int what = 0; what < 8; what++) {
            seen.append(" a").append(loop.account(what));
        }
        for (int grade = 0; grade < 4; grade++) {
            seen.append(" p").append(loop.paper(grade));
        }
        for (int entry = 0; entry < loop.told(8); entry++) {
            for (int what = 0; what < 3; what++) {
                seen.append(" e").append(loop.entry(entry, what));
            }
        }
        return seen.append(" share ").append(loop.paperShare()).append(forecasts(loop)).toString();
    }

    /** The measurements behind the latest one show in what would be only. */
    private static String forecasts(BrokeLoop loop) {
        StringBuilder seen = new StringBuilder();
        for (int ticks = 1; ticks <= 21; ticks += 5) {
            seen.append(" l").append(loop.later(ticks, ticks % 2 == 0 ? 0 : 2));
        }
        seen.append(" l").append(loop.later(9, 1)).append(" l").append(loop.later(30, 3));
        return seen.append(" o").append(loop.overflow()).append(" b").append(loop.bestLimit(20)).toString();
    }

    /** The text, the latest fault and what can be undone besides. */
    static String wholeView(BrokeLoop loop) {
        StringBuilder seen = new StringBuilder(view(loop));
        seen.append(" bytes ").append(loop.told(11)).append(" changes ").append(loop.told(12));
        return seen.append(" fault ").append(loop.fault(0)).append(" at ").append(loop.fault(1)).toString();
    }
}
