/** What is told: the edges of promises 14 (told), 17 (account), 18 (paper) and 20 (paperShare). */
public final class ToldTest {
    private static final int BAD = BrokeLoop.BAD, NONE = BrokeLoop.NONE;
    private static final int[] WRONG = {-1, -9, Integer.MIN_VALUE, Integer.MAX_VALUE};

    public static void main(String[] args) {
        whichTold();
        toldAtFirst();
        reasonOfTheLatestTick();
        measurementOfTheLatestTick();
        lostTicks();
        bytes();
        changes();
        whichAccounts();
        accountsAtFirst();
        inflowCountsWhole();
        givenCountsAsGiven();
        paperOfAllGrades();
        spilledOfEachChest();
        drainedByHandAlone();
        fibreInAllChests();
        fibreAtTheBeginning();
        fibreThatWentIntoTheBrokeChest();
        accountsSinceTheLoopWasBegun();
        whichPaper();
        paperOfEachGrade();
        shareOfNone();
        shareOfPaperAlone();
        shareOfBrokeAlone();
        shareOfBoth();
        shareRoundsToFloat();
        shareOfGreatNumbers();
        Checks.end("ToldTest");
    }

    /** "BAD if what is out of range": 0 to 12. */
    private static void whichTold() {
        BrokeLoop loop = new BrokeLoop();
        for (int what : WRONG) {
            Checks.due("told(" + what + ")", loop.told(what), BAD);
        }
        Checks.due("told(13)", loop.told(13), BAD);
        Checks.due("told(0), the first number", loop.told(0), 0);
        loop.run(1);
        Checks.due("told(12), the last number", loop.told(12), 1);
    }

    private static void toldAtFirst() {
        BrokeLoop loop = new BrokeLoop();
        int[] due = {0, 0, 0, 0, 0, 0, NONE, NONE, 0, 0, 0, 0, 0};
        for (int what = 0; what < due.length; what++) {
            Checks.due("told(" + what + ") at first", loop.told(what), due[what]);
        }
    }

    /** "6 the reason of the latest tick (NONE if there was none)". */
    private static void reasonOfTheLatestTick() {
        BrokeLoop loop = new BrokeLoop();
        loop.set(3, 0);
        loop.fill(1, 1000, 0);
        Checks.due("no tick", loop.told(6), NONE);
        loop.run(1);
        Checks.due("a tick", loop.told(6), 1);
        loop.set(3, 300);
        Checks.due("the latest tick still", loop.told(6), 1);
        loop.run(1);
        Checks.due("another tick", loop.told(6), 0);
        loop.begin();
        Checks.due("no tick since the loop was begun", loop.told(6), NONE);
        loop.undo();
        Checks.due("undone", loop.told(6), 0);
    }

    /** "7 the measurement of the latest tick (NONE if there was none)". */
    private static void measurementOfTheLatestTick() {
        BrokeLoop loop = new BrokeLoop();
        Checks.due("no tick", loop.told(7), NONE);
        loop.run(1);
        Checks.due("a tick", loop.told(7), 40);
        loop.drain(0, 50000);
        loop.set(0, 0);
        loop.run(1);
        Checks.due("a tick of water alone", loop.told(7), 0);
        loop.set(1, 0);
        loop.drain(0, 50000);
        loop.run(1);
        Checks.due("a tick of an empty chest", loop.told(7), 0);
        loop.begin();
        Checks.due("no tick since the loop was begun", loop.told(7), NONE);
    }

    /** "10 ticks in which the sheet was broken or off grade so far". */
    private static void lostTicks() {
        BrokeLoop loop = new BrokeLoop();
        loop.tear(3);
        Checks.due("no tick", loop.told(10), 0);
        loop.run(2);
        Checks.due("2 of 3", loop.told(10), 2);
        loop.run(2);
        Checks.due("3 of 3", loop.told(10), 3);
        loop.change(1);
        loop.tear(2);
        loop.run(10);
        Checks.due("5 off grade, 2 of them broken", loop.told(10), 8);
        loop.begin();
        Checks.due("since the loop was begun", loop.told(10), 0);
    }

    private static void bytes() {
        BrokeLoop loop = new BrokeLoop();
        for (int i = 1; i <= 120; i++) {
            loop.write(64);
            Checks.due("bytes", loop.told(11), i);
        }
        loop.write(64);
        Checks.due("bytes of a full text", loop.told(11), 120);
        loop.wipe();
        Checks.due("bytes of a wiped text", loop.told(11), 0);
    }

    private static void changes() {
        BrokeLoop loop = new BrokeLoop();
        for (int i = 1; i <= 20; i++) {
            loop.tear(1);
            Checks.due("changes that can be undone", loop.told(12), Math.min(8, i));
        }
        for (int i = 7; i >= 0; i--) {
            loop.undo();
            Checks.due("changes that can be undone", loop.told(12), i);
        }
        loop.undo();
        Checks.due("none", loop.told(12), 0);
    }

    /** "BAD if what is out of range": 0 to 7. */
    private static void whichAccounts() {
        BrokeLoop loop = new BrokeLoop();
        for (int what : WRONG) {
            Checks.due("account(" + what + ")", loop.account(what), BAD);
        }
        Checks.due("account(8)", loop.account(8), BAD);
        loop.tear(1);
        loop.run(1);
        Checks.due("account(0), the first number", loop.account(0), 40);
        Checks.due("account(7), the last number", loop.account(7), 20);
    }

    private static void accountsAtFirst() {
        BrokeLoop loop = new BrokeLoop();
        int[] due = {0, 0, 0, 0, 0, 400, 400, 0};
        for (int what = 0; what < due.length; what++) {
            Checks.due("account(" + what + ") at first", loop.account(what), due[what]);
        }
    }

    /** "0 that came with the inflow", also into a full chest. */
    private static void inflowCountsWhole() {
        BrokeLoop loop = new BrokeLoop();
        loop.set(2, 0);
        loop.fill(0, 0, 10000);
        loop.set(0, 200);
        loop.run(5);
        Checks.due("inflow", loop.account(0), 1000);
        Checks.holds("some of it is spilled", loop.account(3) > 0);
        loop.set(0, 0);
        loop.run(5);
        Checks.due("no more of it", loop.account(0), 1000);
    }

    /** "The fibre counts as given", also where the chest is full. */
    private static void givenCountsAsGiven() {
        BrokeLoop loop = new BrokeLoop();
        for (int i = 0; i < 5; i++) {
            loop.fill(2, 5000, 0);
        }
        Checks.due("given", loop.account(1), 25000);
        Checks.due("spilled", loop.account(3), 15000);
        Checks.due("in all chests", loop.account(5), 10400);
    }

    /** "2 made into paper, all grades". */
    private static void paperOfAllGrades() {
        BrokeLoop loop = new BrokeLoop();
        loop.set(8, 0);
        int sum = 0;
        for (int grade = 3; grade >= 0; grade--) {
            loop.change(grade);
            sum += loop.run(1);
            Checks.due("paper so far", loop.account(2), sum);
        }
    }

    /** "3 spilled": by hand, with the inflow, in the machine chest, and in step 6. */
    private static void spilledOfEachChest() {
        for (int chest = 0; chest < 4; chest++) {
            BrokeLoop loop = new BrokeLoop();
            int spilled = loop.fill(chest, 5000, 50000);
            Checks.holds("something is spilled", spilled > 0);
            Checks.due("spilled by hand from " + chest, loop.account(3), spilled);
        }
        BrokeLoop pulp = new BrokeLoop();
        pulp.set(2, 0);
        pulp.fill(0, 5000, 5000);
        pulp.run(1);
        // 5440 in 21000: of the surplus of 1000, 259 are fibre.
        Checks.due("spilled with the inflow", pulp.account(3), 259);
        BrokeLoop machine = new BrokeLoop();
        machine.fill(3, 5000, 5000);
        machine.run(1);
        Checks.due("spilled from the machine chest", machine.account(3), 239);
        BrokeLoop broke = new BrokeLoop();
        broke.set(3, 0);
        broke.fill(1, 5000, 25000);
        broke.tear(1);
        broke.run(1);
        // 5020 in 30520: of the surplus of 520, 85 are fibre.
        Checks.due("spilled in step 6", broke.account(3), 85);
    }

    private static void drainedByHandAlone() {
        BrokeLoop loop = new BrokeLoop();
        loop.run(10);
        Checks.due("nothing is drained in ticks", loop.account(4), 0);
        int first = loop.drain(0, 700);
        int second = loop.drain(0, 50000);
        Checks.holds("something is drained", first > 0 && second > 0);
        Checks.due("drained", loop.account(4), first + second);
        loop.drain(0, 1);
        Checks.due("nothing from an empty chest", loop.account(4), first + second);
    }

    /** "5 in all chests now". */
    private static void fibreInAllChests() {
        BrokeLoop loop = new BrokeLoop();
        for (int chest = 0; chest < 4; chest++) {
            loop.fill(chest, 1000 + chest, 10);
        }
        Checks.due("in all chests", loop.account(5), 400 + 4006);
        for (int chest = 0; chest < 4; chest++) {
            loop.drain(chest, 50000);
        }
        Checks.due("in no chest", loop.account(5), 0);
    }

    /** "6 that was there at the beginning". */
    private static void fibreAtTheBeginning() {
        BrokeLoop loop = new BrokeLoop();
        loop.fill(0, 777, 0);
        loop.run(3);
        Checks.due("at the beginning", loop.account(6), 400);
        loop.drain(0, 50000);
        loop.begin();
        Checks.due("at another beginning", loop.account(6), 400);
    }

    /** "7 that went into the broke chest in step 6": not what is filled by hand, nor the spray. */
    private static void fibreThatWentIntoTheBrokeChest() {
        BrokeLoop loop = new BrokeLoop();
        loop.fill(1, 1000, 0);
        loop.set(3, 0);
        Checks.due("by hand", loop.account(7), 0);
        loop.run(1);
        Checks.due("paper", loop.account(7), 0);
        loop.tear(2);
        loop.run(5);
        Checks.due("two broken ticks", loop.account(7), loop.chest(1, 0) - 1000);
    }

    private static void accountsSinceTheLoopWasBegun() {
        BrokeLoop loop = new BrokeLoop();
        loop.fill(1, 5000, 50000);
        loop.drain(1, 100);
        loop.tear(3);
        loop.run(20);
        for (int what = 0; what < 8; what++) {
            Checks.holds("account(" + what + ") before", loop.account(what) > 0);
        }
        loop.begin();
        int[] due = {0, 0, 0, 0, 0, 400, 400, 0};
        for (int what = 0; what < due.length; what++) {
            Checks.due("account(" + what + ") of a loop that is begun", loop.account(what), due[what]);
        }
    }

    /** "BAD if there is no such grade": 0 to 3. */
    private static void whichPaper() {
        BrokeLoop loop = new BrokeLoop();
        for (int grade : WRONG) {
            Checks.due("paper(" + grade + ")", loop.paper(grade), BAD);
        }
        Checks.due("paper(4)", loop.paper(4), BAD);
        for (int grade = 0; grade < 4; grade++) {
            Checks.due("paper(" + grade + ")", loop.paper(grade), 0);
        }
    }

    private static void paperOfEachGrade() {
        for (int grade = 0; grade < 4; grade++) {
            BrokeLoop loop = new BrokeLoop();
            loop.set(8, 0);
            loop.change(grade);
            loop.run(1);
            for (int other = 0; other < 4; other++) {
                Checks.due("paper(" + other + ") of grade " + grade, loop.paper(other), other == grade ? 20 : 0);
            }
        }
    }

    /** "Returns the share, 0.0 if there was none." */
    private static void shareOfNone() {
        BrokeLoop loop = new BrokeLoop();
        Checks.due("share at first", loop.paperShare(), 0.0f);
        loop.set(2, 0);
        loop.run(5);
        Checks.due("share of paper without fibre", loop.paperShare(), 0.0f);
        loop.tear(5);
        loop.run(5);
        Checks.due("share of broke without fibre", loop.paperShare(), 0.0f);
        loop.set(2, 500);
        loop.run(1);
        Checks.due("share of paper", loop.paperShare(), 1.0f);
        loop.begin();
        Checks.due("share of a loop that is begun", loop.paperShare(), 0.0f);
    }

    private static void shareOfPaperAlone() {
        BrokeLoop loop = new BrokeLoop();
        loop.fill(1, 1000, 0);
        loop.run(7);
        Checks.due("share of paper alone", loop.paperShare(), 1.0f);
    }

    private static void shareOfBrokeAlone() {
        BrokeLoop loop = new BrokeLoop();
        loop.tear(50);
        loop.run(50);
        Checks.holds("broke", loop.account(7) > 0);
        Checks.due("share of broke alone", loop.paperShare(), 0.0f);
    }

    private static void shareOfBoth() {
        BrokeLoop loop = new BrokeLoop();
        loop.set(3, 0);
        loop.set(6, 0);
        loop.run(1);
        loop.tear(1);
        loop.run(1);
        Checks.due("20 of 40", loop.paperShare(), 0.5f);
        loop.tear(1);
        loop.run(1);
        Checks.due("20 of 60", loop.paperShare(), 20.0f / 60.0f);
        loop.set(8, 0);
        loop.change(3);
        loop.run(1);
        Checks.due("40 of 80, of two grades", loop.paperShare(), 0.5f);
        loop.drain(0, 50000);
        Checks.due("what is drained does not count", loop.paperShare(), 0.5f);
    }

    /** "As a float": a division of floats, which is another number than that of doubles. */
    private static void shareRoundsToFloat() {
        BrokeLoop loop = new BrokeLoop();
        loop.set(3, 0);
        loop.set(6, 0);
        loop.tear(2);
        loop.run(3);
        Checks.due("20 of 60", loop.paperShare(), (double) (20.0f / 60.0f));
        Checks.holds("20 of 60 as a double is another number", (double) loop.paperShare() != 20.0 / 60.0);
    }

    /** "Both converted to float": the paper and the whole sum, where floats leave out numbers (above 2^24). */
    private static void shareOfGreatNumbers() {
        BrokeLoop loop = new BrokeLoop();
        int[][] settings = {{0, 0}, {1, 0}, {2, 2000}, {3, 1000}, {6, 0}, {7, 0}};
        for (int[] row : settings) {
            loop.set(row[0], row[1]);
        }
        for (int i = 0; i < 6; i++) {
            loop.fill(1, 5000, 0);
        }
        // Fibre alone goes round and round, 2000 in a tick.
        for (int i = 0; i < 168; i++) {
            loop.tear(50);
            loop.run(50);
        }
        loop.set(2, 7);
        loop.run(1);
        int made = loop.account(2);
        int broke = loop.account(7);
        Checks.due("broke", broke, 168 * 50 * 2000);
        Checks.due("paper", made, 7);
        float due = (float) made / (float) (made + broke);
        Checks.holds("a division of whole numbers is another one", due != (float) ((double) made / (made + broke)));
        Checks.due("share", loop.paperShare(), due);
    }
}
