/** Counts answers that are not as due, and ends the program with the code 1 if there was one. */
final class Checks {
    private static int done = 0;
    private static int wrong = 0;

    private Checks() {
    }

    static void due(String what, double got, double want) {
        done++;
        if (got != want) {
            wrong++;
            System.out.println(what + " answered " + got + ", due is " + want);
        }
    }

    static void due(String what, int got, int want) {
        due(what, (double) got, (double) want);
    }

    static void holds(String what, boolean held) {
        done++;
        if (!held) {
            wrong++;
            System.out.println(what + " does not hold");
        }
    }

    static void end(String name) {
        System.out.println(name + ": " + done + " checks, " + wrong + " wrong");
        if (wrong != 0 || done == 0) {
            System.exit(1);
        }
    }

    static void write(BrokeLoop loop, String text) {
        loop.wipe();
        for (int i = 0; i < text.length(); i++) {
            due("write of '" + text + "' at " + i, loop.write(text.charAt(i)), i + 1);
        }
    }

    static BrokeLoop planned(String text) {
        BrokeLoop loop = new BrokeLoop();
        write(loop, text);
        loop.plan();
        return loop;
    }

    static void chestHas(String when, BrokeLoop loop, int chest, int fibre, int water) {
        due(when + ": fibre of chest " + chest, loop.chest(chest, 0), fibre);
        due(when + ": water of chest " + chest, loop.chest(chest, 1), water);
    }

    /** Everything that can be seen of a loop, but for what undo leaves alone. */
    static String view(BrokeLoop loop) {
        StringBuilder seen = new StringBuilder();
        for (int what = 0; what <= 10; what++) {
            seen.append(" t").append(loop.told(what));
        }
        for (int setting = 0; setting < 9; setting++) {
            seen.append(" s").append(loop.setting(setting));
        }
        for (int chest = 0; chest < 4; chest++) {
            for (int what = 0; what < 5; what++) {
                seen.append(" c").append(loop.chest(chest, what));
            }
        }
        for (int what = 0; what < 8; what++) {
            seen.append(" a").append(loop.account(what));
        }
        for (int grade = 0; grade < 4; grade++) {
            seen.append(" p").append(loop.paper(grade));
        }
        for (int entry = 0; entry < loop.told(8); entry++) {
            for (int what = 0; what < 3; what++) {
                seen.append(" e").append(loop.entry(entry, what));
            }
        }
        return seen.append(" share ").append(loop.paperShare()).append(forecasts(loop)).toString();
    }

    /** The measurements behind the latest one show in what would be only. */
    private static String forecasts(BrokeLoop loop) {
        StringBuilder seen = new StringBuilder();
        for (int ticks = 1; ticks <= 41; ticks += 4) {
            for (int what = 0; what < 4; what++) {
                seen.append(" l").append(loop.later(ticks, what));
            }
        }
        return seen.append(" o").append(loop.overflow()).append(" b").append(loop.bestLimit(20)).toString();
    }
}
