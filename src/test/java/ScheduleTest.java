/** THE SCHEDULE, with promises 8 (plan) and 19 (entry). */
public final class ScheduleTest {
    private static final int BAD = BrokeLoop.BAD, STATE = BrokeLoop.STATE;
    private static final int LOW = Integer.MIN_VALUE, HIGH = Integer.MAX_VALUE;

    public static void main(String[] args) {
        emptyAtFirst();
        noEntries();
        oneEntry();
        mostEntries();
        oneEntryTooMany();
        fewerEntries();
        fromLastToFirst();
        sameTimes();
        sameTimesAreCarriedOutInOrder();
        kindsAndNumbers();
        timeThatIsNow();
        timeThatIsNext();
        timesThatArePast();
        entriesAhead();
        carriedOutOnce();
        carriedOutAnew();
        scheduleIsNotTheText();
        wrongTextLeavesTheSchedule();
        whichEntries();
        whichNumbers();
        Checks.end("ScheduleTest");
    }

    private static void entryIs(BrokeLoop loop, int entry, int time, int kind, int number) {
        Checks.due("time of entry " + entry, loop.entry(entry, 0), time);
        Checks.due("kind of entry " + entry, loop.entry(entry, 1), kind);
        Checks.due("number of entry " + entry, loop.entry(entry, 2), number);
    }

    private static void emptyAtFirst() {
        BrokeLoop loop = new BrokeLoop();
        Checks.due("entries", loop.told(8), 0);
        Checks.due("entries ahead", loop.told(9), 0);
        Checks.due("entry(0, 0)", loop.entry(0, 0), BAD);
        loop.run(10);
        Checks.due("nothing is carried out", loop.told(10), 0);
    }

    /** "A text without entries is a schedule without entries." */
    private static void noEntries() {
        BrokeLoop loop = new BrokeLoop();
        Checks.due("plan() of the empty text", loop.plan(), 0);
        Checks.due("it is a change", loop.told(12), 1);
        Checks.plan(loop, "b5:1 b6:1");
        Checks.due("entries", loop.told(8), 2);
        Checks.write(loop, "   ");
        Checks.due("plan() of blanks", loop.plan(), 0);
        Checks.due("entries", loop.told(8), 0);
        Checks.due("entries ahead", loop.told(9), 0);
        Checks.due("entry(0, 0)", loop.entry(0, 0), BAD);
        loop.run(10);
        Checks.due("nothing is carried out", loop.told(10), 0);
    }

    private static void oneEntry() {
        BrokeLoop loop = Checks.planned("f3:0");
        entryIs(loop, 0, 3, 2, 0);
        Checks.due("entries", loop.told(8), 1);
        Checks.due("entry(1, 0)", loop.entry(1, 0), BAD);
        Checks.due("entry(-1, 0)", loop.entry(-1, 0), BAD);
    }

    /** "The schedule has at most 20 entries". */
    private static void mostEntries() {
        BrokeLoop loop = new BrokeLoop();
        Checks.write(loop, "f1:1 f2:2 f3:3 f4:4 f5:5 f6:6 f7:7 f8:8 f9:9 "
                + "b1:1 b2:2 b3:3 b4:4 b5:5 b6:6 b7:7 b8:8 b9:9 g1:1 g2:2");
        Checks.due("plan() of 20 entries", loop.plan(), 20);
        Checks.due("entries", loop.told(8), 20);
        Checks.due("entries ahead", loop.told(9), 20);
        entryIs(loop, 0, 1, 2, 1);
        entryIs(loop, 1, 1, 0, 1);
        entryIs(loop, 2, 1, 1, 1);
        entryIs(loop, 18, 9, 2, 9);
        entryIs(loop, 19, 9, 0, 9);
        Checks.due("entry(20, 0)", loop.entry(20, 0), BAD);
        loop.run(9);
        Checks.due("the last one is carried out", loop.told(2), 8);
        Checks.due("the last one but one too", loop.setting(2), 9);
    }

    private static void oneEntryTooMany() {
        BrokeLoop loop = Checks.planned("b7:7");
        Checks.write(loop, "f1:1 ".repeat(21));
        Checks.due("plan() of 21 entries", loop.plan(), STATE);
        Checks.due("kind", loop.fault(0), 4);
        Checks.due("place", loop.fault(1), 100);
        Checks.due("entries", loop.told(8), 1);
        entryIs(loop, 0, 7, 0, 7);
    }

    private static void fewerEntries() {
        BrokeLoop loop = Checks.planned("f1:1 ".repeat(20));
        Checks.plan(loop, "b2:1");
        Checks.due("entries", loop.told(8), 1);
        Checks.due("entries ahead", loop.told(9), 1);
        Checks.due("entry(1, 0)", loop.entry(1, 0), BAD);
        Checks.due("entry(19, 0)", loop.entry(19, 0), BAD);
        loop.run(1);
        Checks.due("what was planned before is not carried out", loop.setting(2), 500);
    }

    /** "In ascending order of their times". */
    private static void fromLastToFirst() {
        StringBuilder text = new StringBuilder();
        for (int time = 20; time >= 1; time--) {
            text.append('f').append(time).append(':').append(time % 10).append(' ');
        }
        BrokeLoop loop = Checks.planned(text.toString().trim());
        for (int time = 1; time <= 20; time++) {
            entryIs(loop, time - 1, time, 2, time % 10);
        }
        for (int time = 1; time <= 20; time++) {
            loop.run(1);
            Checks.due("flow at " + time, loop.setting(2), time % 10);
        }
        loop = Checks.planned("b9999:1 b1:2 b9998:3");
        entryIs(loop, 0, 1, 0, 2);
        entryIs(loop, 1, 9998, 0, 3);
        entryIs(loop, 2, 9999, 0, 1);
    }

    /** "Entries with the same time stand in the order in which they were told." */
    private static void sameTimes() {
        StringBuilder text = new StringBuilder();
        for (int number = 0; number < 20; number++) {
            text.append("f5:").append(19 - number).append(' ');
        }
        BrokeLoop loop = Checks.planned(text.toString().trim());
        for (int number = 0; number < 20; number++) {
            entryIs(loop, number, 5, 2, 19 - number);
        }
        loop = Checks.planned("g9:1 b9:2 g5:2 f9:3 b5:1 g5:3 b1:9 g9:0");
        int[][] due = {{1, 0, 9}, {5, 1, 2}, {5, 0, 1}, {5, 1, 3}, {9, 1, 1}, {9, 0, 2}, {9, 2, 3}, {9, 1, 0}};
        for (int entry = 0; entry < due.length; entry++) {
            entryIs(loop, entry, due[entry][0], due[entry][1], due[entry][2]);
        }
    }

    /** The entries of a time "are carried out, in its order". */
    private static void sameTimesAreCarriedOutInOrder() {
        BrokeLoop loop = Checks.planned("f3:700 f3:0 f3:600");
        loop.run(3);
        Checks.due("the last flow", loop.setting(2), 600);
        loop = Checks.planned("g2:1 g2:0");
        loop.run(2);
        Checks.due("the last grade", loop.told(1), 0);
        Checks.due("both were changes to another grade", loop.told(3), 4);
        loop = Checks.planned("b2:9 b2:3");
        loop.run(2);
        Checks.due("the greater break", loop.told(2), 8);
    }

    private static void kindsAndNumbers() {
        BrokeLoop loop = Checks.planned("b9999:50 g9999:3 f9999:2000 b1:1 g1:0 f1:0");
        int[][] due = {{1, 0, 1}, {1, 1, 0}, {1, 2, 0}, {9999, 0, 50}, {9999, 1, 3}, {9999, 2, 2000}};
        for (int entry = 0; entry < due.length; entry++) {
            entryIs(loop, entry, due[entry][0], due[entry][1], due[entry][2]);
        }
    }

    private static BrokeLoop plannedAtFive(String text) {
        BrokeLoop loop = new BrokeLoop();
        loop.run(5);
        Checks.plan(loop, text);
        return loop;
    }

    /** "Entries whose time is past stay in it, but are not carried out": the time of the tick that was done. */
    private static void timeThatIsNow() {
        BrokeLoop loop = plannedAtFive("f5:7");
        Checks.due("entries ahead", loop.told(9), 0);
        Checks.due("flow", loop.setting(2), 500);
        loop.run(3);
        Checks.due("flow", loop.setting(2), 500);
        Checks.due("it stays", loop.told(8), 1);
        Checks.due("it stays with its time", loop.entry(0, 0), 5);
    }

    private static void timeThatIsNext() {
        BrokeLoop loop = plannedAtFive("f6:7");
        Checks.due("entries ahead", loop.told(9), 1);
        Checks.due("flow", loop.setting(2), 500);
        loop.run(1);
        Checks.due("flow", loop.setting(2), 7);
        Checks.due("entries ahead", loop.told(9), 0);
    }

    private static void timesThatArePast() {
        BrokeLoop loop = plannedAtFive("b1:9 g2:1 f3:7 b4:9 g6:2");
        Checks.due("entries", loop.told(8), 5);
        Checks.due("entries ahead", loop.told(9), 1);
        loop.run(1);
        Checks.due("flow", loop.setting(2), 500);
        Checks.due("sheet", loop.told(2), 0);
        Checks.due("grade", loop.told(1), 2);
        Checks.due("entries", loop.told(8), 5);
    }

    /** told(9): "entries whose time is greater than the clock". */
    private static void entriesAhead() {
        BrokeLoop loop = Checks.planned("f2:1 f2:2 f3:3 f5:4");
        int[] due = {4, 4, 2, 1, 1, 0, 0};
        for (int clock = 0; clock < due.length; clock++) {
            Checks.due("clock", loop.told(0), clock);
            Checks.due("entries ahead at " + clock, loop.told(9), due[clock]);
            Checks.due("entries at " + clock, loop.told(8), 4);
            loop.run(1);
        }
    }

    private static void carriedOutOnce() {
        BrokeLoop loop = Checks.planned("f2:7 g2:1");
        loop.run(2);
        loop.set(2, 500);
        loop.change(0);
        loop.run(10);
        Checks.due("flow", loop.setting(2), 500);
        Checks.due("grade", loop.told(1), 0);
    }

    /** begin() leaves the schedule, and sets the clock to 0: its entries are ahead again. */
    private static void carriedOutAnew() {
        BrokeLoop loop = Checks.planned("f2:7");
        loop.run(2);
        loop.set(2, 500);
        loop.begin();
        Checks.due("entries ahead", loop.told(9), 1);
        loop.run(2);
        Checks.due("flow", loop.setting(2), 7);
        loop.set(2, 500);
        loop.undo();
        loop.undo();
        Checks.due("flow before", loop.setting(2), 500);
        Checks.due("clock before", loop.told(0), 0);
        loop.run(2);
        Checks.due("flow again", loop.setting(2), 7);
    }

    /** "Makes the schedule that of the text. The text stays." */
    private static void scheduleIsNotTheText() {
        BrokeLoop loop = Checks.planned("f2:7");
        Checks.due("the text stays", loop.told(11), 4);
        Checks.due("wipe()", loop.wipe(), 4);
        Checks.due("entries", loop.told(8), 1);
        loop.write('b');
        entryIs(loop, 0, 2, 2, 7);
        loop.run(2);
        Checks.due("flow", loop.setting(2), 7);
        loop = Checks.planned("f2:7");
        Checks.due("plan() again", loop.plan(), 1);
        loop.write(' ');
        loop.write('f');
        loop.write('3');
        loop.write(':');
        loop.write('8');
        Checks.due("plan() of more", loop.plan(), 2);
        entryIs(loop, 1, 3, 2, 8);
    }

    private static void wrongTextLeavesTheSchedule() {
        BrokeLoop loop = Checks.planned("f2:7 b3:4");
        Checks.write(loop, "g1:1 g2:2 g3:3 x");
        Checks.due("plan()", loop.plan(), STATE);
        Checks.due("entries", loop.told(8), 2);
        entryIs(loop, 0, 2, 2, 7);
        entryIs(loop, 1, 3, 0, 4);
        Checks.due("changes", loop.told(12), 1);
        Checks.due("the text stays", loop.told(11), 16);
        loop.run(2);
        Checks.due("flow", loop.setting(2), 7);
    }

    /** "BAD if there is no such entry": 0 for the first one. */
    private static void whichEntries() {
        BrokeLoop loop = Checks.planned("f2:7 b3:4");
        int[] wrong = {-1, 2, 19, 20, 21, LOW, HIGH};
        for (int entry : wrong) {
            for (int what = 0; what < 3; what++) {
                Checks.due("entry(" + entry + ", " + what + ")", loop.entry(entry, what), BAD);
            }
        }
        Checks.due("the first one", loop.entry(0, 0), 2);
        Checks.due("the last one", loop.entry(1, 0), 3);
    }

    /** "[..] or what is out of range": 0 to 2. */
    private static void whichNumbers() {
        BrokeLoop loop = Checks.planned("f2:7 b3:4");
        int[] wrong = {-1, 3, LOW, HIGH};
        for (int what : wrong) {
            Checks.due("entry(0, " + what + ")", loop.entry(0, what), BAD);
            Checks.due("entry(1, " + what + ")", loop.entry(1, what), BAD);
        }
        entryIs(loop, 1, 3, 0, 4);
    }
}
