/** A TICK, steps 6 and 7, and BREAKS AND GRADES, with promises 4 (tear) and 5 (change). */
public final class SheetTest {
    private static final int BAD = BrokeLoop.BAD;
    private static final int LOW = Integer.MIN_VALUE, HIGH = Integer.MAX_VALUE;

    public static void main(String[] args) {
        takenAsFarAsItIsThere();
        paperAndItsWater();
        brokenSheetMakesBroke();
        offGradeSheetMakesBroke();
        brokenAndOffGradeIsOneTick();
        brokeChestToItsRoom();
        brokeChestBeyondItsRoom();
        fullBrokeChest();
        gradeOfTheBroke();
        gradeOfTheBrokeWithoutFibre();
        gradeOfTheBrokeWithPaper();
        brokenForOneTick();
        brokenForTheLongest();
        offGradeForOneTick();
        timesStayAtZero();
        tearTicks();
        greaterTimeHolds();
        changeGrades();
        anotherGradeStartsAnew();
        sameGradeDoesNothing();
        offGradeTimeIsThatOfTheChange();
        Checks.end("SheetTest");
    }

    /** A loop without stock; what the machine chest has is all that can go onto the machine. */
    private static BrokeLoop dry() {
        BrokeLoop loop = new BrokeLoop();
        loop.set(0, 0);
        loop.set(1, 0);
        Checks.empty(loop, 0);
        return loop;
    }

    /** "The flow of the machine is taken from the machine chest, as far as it is there." */
    private static void takenAsFarAsItIsThere() {
        int[][] rows = {{0, 0, 0}, {1, 1, 0}, {499, 499, 0}, {500, 500, 0}, {501, 500, 1}};
        for (int[] row : rows) {
            BrokeLoop loop = dry();
            loop.fill(3, row[0], 0);
            Checks.due("paper of " + row[0], loop.run(1), row[1]);
            Checks.chestHas("machine chest of " + row[0], loop, 3, row[2], 0);
        }
    }

    /** "Its fibre is paper, which is counted for the grade"; "the water that came with the fibre is gone". */
    private static void paperAndItsWater() {
        BrokeLoop loop = dry();
        loop.fill(3, 7, 0);
        loop.fill(3, 0, 93);
        Checks.due("paper", loop.run(1), 7);
        Checks.due("paper of the grade", loop.paper(0), 7);
        Checks.due("paper of another grade", loop.paper(1), 0);
        for (int chest = 0; chest < 4; chest++) {
            Checks.chestHas("the water is gone", loop, chest, 0, 0);
        }
        Checks.due("ticks lost", loop.told(10), 0);
    }

    /** "Otherwise its fibre, with the water of the spray, is filled into the broke chest". */
    private static void brokenSheetMakesBroke() {
        BrokeLoop loop = dry();
        loop.fill(3, 7, 93);
        loop.tear(1);
        Checks.due("no paper", loop.run(1), 0);
        Checks.chestHas("broke", loop, 1, 7, 500);
        Checks.chestHas("the water is gone", loop, 3, 0, 0);
        Checks.due("into the broke chest", loop.account(7), 7);
        Checks.due("ticks lost", loop.told(10), 1);
    }

    private static void offGradeSheetMakesBroke() {
        BrokeLoop loop = dry();
        loop.fill(3, 7, 93);
        loop.change(2);
        Checks.due("no paper", loop.run(1), 0);
        Checks.chestHas("broke", loop, 1, 7, 500);
        Checks.due("into the broke chest", loop.account(7), 7);
        Checks.due("ticks lost", loop.told(10), 1);
        Checks.due("no paper of the grade", loop.paper(2), 0);
    }

    /** told(10): "ticks in which the sheet was broken or off grade so far": both at once count once. */
    private static void brokenAndOffGradeIsOneTick() {
        BrokeLoop loop = dry();
        loop.tear(2);
        loop.set(8, 3);
        loop.change(1);
        int[][] due = {{1, 2, 1}, {0, 1, 2}, {0, 0, 3}, {0, 0, 3}};
        for (int[] row : due) {
            loop.run(1);
            Checks.due("still broken", loop.told(2), row[0]);
            Checks.due("still off grade", loop.told(3), row[1]);
            Checks.due("ticks lost", loop.told(10), row[2]);
        }
    }

    /** A loop in which 10 of fibre and 500 of spray come into a broke chest of this mass of water. */
    private static BrokeLoop tornWith(int brokeWater) {
        BrokeLoop loop = dry();
        loop.set(3, 0);
        loop.fill(1, 0, brokeWater);
        loop.fill(3, 10, 0);
        loop.tear(1);
        loop.run(1);
        return loop;
    }

    private static void brokeChestToItsRoom() {
        BrokeLoop loop = tornWith(29489);
        Checks.chestHas("one below the room", loop, 1, 10, 29989);
        Checks.due("room", loop.chest(1, 3), 1);
        loop = tornWith(29490);
        Checks.chestHas("up to the room", loop, 1, 10, 29990);
        Checks.due("room", loop.chest(1, 3), 0);
    }

    private static void brokeChestBeyondItsRoom() {
        BrokeLoop loop = tornWith(29491);
        Checks.chestHas("one beyond the room", loop, 1, 10, 29990);
        Checks.due("spilled", loop.account(3), 0);
    }

    /** The account tells all fibre "that went into the broke chest in step 6", also what is spilled at once. */
    private static void fullBrokeChest() {
        BrokeLoop loop = dry();
        loop.set(3, 0);
        for (int i = 0; i < 6; i++) {
            loop.fill(1, 5000, 0);
        }
        loop.fill(3, 400, 0);
        loop.tear(1);
        loop.run(1);
        // 30400 in 30900: of the surplus of 900, 900 * 30400 / 30900 = 885 are fibre.
        Checks.chestHas("full", loop, 1, 29515, 485);
        Checks.due("spilled", loop.account(3), 885);
        Checks.due("into the broke chest", loop.account(7), 400);
    }

    /** "The grade of the broke is 0 at first", and "becomes the present grade" when broke is made. */
    private static void gradeOfTheBroke() {
        BrokeLoop loop = new BrokeLoop();
        Checks.due("at first", loop.told(5), 0);
        loop.change(3);
        Checks.due("a change of the grade leaves it", loop.told(5), 0);
        loop.run(1);
        Checks.due("a tick off grade", loop.told(5), 3);
        loop.set(8, 0);
        loop.change(1);
        loop.tear(1);
        Checks.due("a break leaves it", loop.told(5), 3);
        loop.run(1);
        Checks.due("a broken tick", loop.told(5), 1);
    }

    /** "(Also if there was no fibre)." */
    private static void gradeOfTheBrokeWithoutFibre() {
        BrokeLoop loop = dry();
        loop.set(7, 0);
        loop.change(2);
        loop.run(1);
        Checks.due("nothing at all came", loop.told(5), 2);
        Checks.chestHas("nothing at all came", loop, 1, 0, 0);
        loop = dry();
        loop.set(8, 0);
        loop.change(2);
        loop.tear(1);
        loop.run(1);
        Checks.due("water alone came", loop.told(5), 2);
        Checks.chestHas("water alone came", loop, 1, 0, 500);
    }

    private static void gradeOfTheBrokeWithPaper() {
        BrokeLoop loop = new BrokeLoop();
        loop.set(8, 0);
        loop.change(1);
        loop.run(3);
        Checks.due("paper leaves it", loop.told(5), 0);
    }

    /** "The time that it is still broken decreases by 1, and at 0 it runs again": the least break. */
    private static void brokenForOneTick() {
        BrokeLoop loop = new BrokeLoop();
        Checks.due("tear(1)", loop.tear(1), 1);
        Checks.due("broken", loop.told(2), 1);
        Checks.due("no paper", loop.run(1), 0);
        Checks.due("runs again", loop.told(2), 0);
        Checks.holds("paper", loop.run(1) > 0);
        Checks.due("ticks lost", loop.told(10), 1);
    }

    private static void brokenForTheLongest() {
        BrokeLoop loop = new BrokeLoop();
        Checks.due("tear(50)", loop.tear(50), 50);
        Checks.due("no paper", loop.run(49), 0);
        Checks.due("broken", loop.told(2), 1);
        Checks.due("no paper", loop.run(1), 0);
        Checks.due("runs again", loop.told(2), 0);
        Checks.holds("paper", loop.run(1) > 0);
        Checks.due("ticks lost", loop.told(10), 50);
    }

    /** "The off grade time that is left decreases by 1, if it is above 0. (The sheet is on grade if this is 0.)" */
    private static void offGradeForOneTick() {
        BrokeLoop loop = new BrokeLoop();
        loop.set(8, 1);
        loop.change(1);
        Checks.due("off grade", loop.told(3), 1);
        Checks.due("no paper", loop.run(1), 0);
        Checks.due("on grade", loop.told(3), 0);
        int made = loop.run(1);
        Checks.holds("paper", made > 0);
        Checks.due("of the grade", loop.paper(1), made);
    }

    private static void timesStayAtZero() {
        BrokeLoop loop = new BrokeLoop();
        loop.run(3);
        Checks.due("broken", loop.told(2), 0);
        Checks.due("off grade", loop.told(3), 0);
        Checks.due("ticks lost", loop.told(10), 0);
        Checks.due("a break behind it", loop.tear(2), 2);
    }

    /** "ticks: for how many ticks, 1 to 50"; "BAD if ticks is out of range". */
    private static void tearTicks() {
        int[] wrong = {0, 51, -1, LOW, HIGH};
        for (int ticks : wrong) {
            BrokeLoop loop = new BrokeLoop();
            Checks.due("tear(" + ticks + ")", loop.tear(ticks), BAD);
            Checks.due("broken", loop.told(2), 0);
            Checks.due("changes", loop.told(12), 0);
        }
        for (int ticks = 1; ticks <= 50; ticks++) {
            BrokeLoop loop = new BrokeLoop();
            Checks.due("tear(" + ticks + ")", loop.tear(ticks), ticks);
            Checks.due("broken", loop.told(2), ticks);
        }
    }

    /** "If it is broken already, the greater one of both times holds": one less, the same, one more. */
    private static void greaterTimeHolds() {
        BrokeLoop loop = new BrokeLoop();
        loop.tear(10);
        Checks.due("one less", loop.tear(9), 10);
        Checks.due("the same", loop.tear(10), 10);
        Checks.due("one more", loop.tear(11), 11);
        Checks.due("all are changes", loop.told(12), 4);
        loop.run(3);
        Checks.due("less than what is left", loop.tear(7), 8);
        Checks.due("what is left", loop.tear(8), 8);
        Checks.due("more than what is left", loop.tear(9), 9);
        loop.tear(50);
        Checks.due("the least of the longest", loop.tear(1), 50);
        BrokeLoop told = Checks.planned("b2:3 b3:1 b3:2 b4:2 b5:1");
        int[] due = {0, 2, 1, 1, 0, 0};
        for (int tick = 1; tick <= due.length; tick++) {
            told.run(1);
            Checks.due("told by the schedule, tick " + tick, told.told(2), due[tick - 1]);
        }
    }

    /** "Returns the grade that it was; BAD if there is no such grade." */
    private static void changeGrades() {
        int[] wrong = {-1, 4, LOW, HIGH};
        for (int grade : wrong) {
            BrokeLoop loop = new BrokeLoop();
            Checks.due("change(" + grade + ")", loop.change(grade), BAD);
            Checks.due("off grade", loop.told(3), 0);
            Checks.due("changes", loop.told(12), 0);
        }
        for (int from = 0; from < 4; from++) {
            for (int to = 0; to < 4; to++) {
                BrokeLoop loop = new BrokeLoop();
                loop.change(from);
                Checks.due("change() from " + from + " to " + to, loop.change(to), from);
                Checks.due("grade", loop.told(1), to);
            }
        }
    }

    /** "When the grade is changed to another one, the off grade time that is left becomes the setting". */
    private static void anotherGradeStartsAnew() {
        BrokeLoop loop = new BrokeLoop();
        loop.change(1);
        loop.run(3);
        Checks.due("left", loop.told(3), 2);
        loop.change(2);
        Checks.due("more than was left", loop.told(3), 5);
        loop.set(8, 3);
        loop.change(1);
        Checks.due("less than was left", loop.told(3), 3);
        loop.set(8, 0);
        loop.change(2);
        Checks.due("none though some was left", loop.told(3), 0);
        loop.run(1);
        Checks.due("on grade at once", loop.told(10), 3);
    }

    /** "A change to the same grade does nothing." */
    private static void sameGradeDoesNothing() {
        BrokeLoop loop = new BrokeLoop();
        Checks.due("change(0) at first", loop.change(0), 0);
        Checks.due("on grade", loop.told(3), 0);
        loop.change(2);
        loop.run(2);
        loop.set(8, 20);
        Checks.due("change(2) again", loop.change(2), 2);
        Checks.due("what was left", loop.told(3), 3);
        BrokeLoop told = Checks.planned("g1:0 g2:1 g3:1");
        int[] due = {0, 4, 3};
        for (int tick = 1; tick <= due.length; tick++) {
            told.run(1);
            Checks.due("told by the schedule, tick " + tick, told.told(3), due[tick - 1]);
        }
    }

    private static void offGradeTimeIsThatOfTheChange() {
        BrokeLoop loop = new BrokeLoop();
        loop.change(1);
        loop.set(8, 20);
        Checks.due("a setting behind the change", loop.told(3), 5);
        loop.run(5);
        Checks.due("on grade", loop.told(3), 0);
    }
}
