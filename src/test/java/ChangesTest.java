import java.util.function.ToIntFunction;

/** CHANGES, with promises 2 (begin), 9 (run), 10 (undo), 24 (keep) and 25 (back). */
public final class ChangesTest {
    private static final int BAD = BrokeLoop.BAD, STATE = BrokeLoop.STATE, NONE = BrokeLoop.NONE;
    private static final int LOW = Integer.MIN_VALUE, HIGH = Integer.MAX_VALUE;

    public static void main(String[] args) {
        nothingToUndo();
        eachChangeIsRecordedAndUndone();
        changesThatChangeNothing();
        noOtherCallIsAChange();
        undoIsNoChange();
        eightChanges();
        nineChanges();
        manyChanges();
        undoneAndChangedAgain();
        undoLeavesTheText();
        undoLeavesTheFault();
        undoLeavesTheImages();
        beginOfANewObject();
        beginSetsAllAsAtFirst();
        beginLeaves();
        beginIsRecorded();
        beginOfAFullHistory();
        runTicks();
        runIsOneChange();
        runTellsItsOwnPaper();
        whichImages();
        backOfNothing();
        keepAtOnce();
        keepReplaces();
        twoImages();
        keepIsNoChange();
        imageStays();
        imageLeavesTextAndFault();
        imageLeavesWhatCanBeUndone();
        backOfAFullHistory();
        twoObjects();
        Checks.end("ChangesTest");
    }

    /** "STATE if there is none." */
    private static void nothingToUndo() {
        BrokeLoop loop = new BrokeLoop();
        Checks.due("undo() of a new object", loop.undo(), STATE);
        Checks.due("changes", loop.told(12), 0);
        loop.set(0, 1);
        Checks.due("undo() of the only change", loop.undo(), 0);
        Checks.due("undo() of no more", loop.undo(), STATE);
        Checks.due("setting", loop.setting(0), 40);
    }

    private static BrokeLoop busy() {
        BrokeLoop loop = Checks.planned("g4:1 b20:2");
        loop.fill(1, 100, 900);
        loop.run(6);
        loop.keep(0);
        loop.tear(3);
        loop.run(2);
        return loop;
    }

    private static void isRecorded(String name, ToIntFunction<BrokeLoop> change) {
        BrokeLoop loop = busy();
        int changes = loop.told(12);
        String before = Checks.view(loop);
        Checks.holds(name + " returns no code", change.applyAsInt(loop) >= 0);
        Checks.due(name + " is one change", loop.told(12), changes + 1);
        Checks.holds(name + " changes something", !Checks.view(loop).equals(before));
        Checks.due(name + " is undone", loop.undo(), changes);
        Checks.same(name + " is undone", Checks.view(loop), before);
    }

    /** "A change that returns no error code records everything before it"; "undo() [..] restores it". */
    private static void eachChangeIsRecordedAndUndone() {
        isRecorded("begin()", x -> x.begin());
        isRecorded("set()", x -> x.set(8, 9));
        isRecorded("tear()", x -> x.tear(9));
        isRecorded("change()", x -> x.change(2));
        isRecorded("fill()", x -> x.fill(3, 300, 20000));
        isRecorded("drain()", x -> x.drain(0, 5000));
        isRecorded("plan()", x -> x.wipe() + x.plan());
        isRecorded("run()", x -> x.run(30));
        isRecorded("back()", x -> x.back(0));
    }

    private static void isRecordedThoughSame(String name, ToIntFunction<BrokeLoop> change) {
        BrokeLoop loop = busy();
        int changes = loop.told(12);
        String before = Checks.view(loop);
        Checks.holds(name + " returns no code", change.applyAsInt(loop) >= 0);
        Checks.same(name + " changes nothing", Checks.view(loop), before);
        Checks.due(name + " is a change", loop.told(12), changes + 1);
        Checks.due(name + " is undone", loop.undo(), changes);
        Checks.same(name + " is undone", Checks.view(loop), before);
    }

    /** "Some methods are called changes below (also if they change nothing)." */
    private static void changesThatChangeNothing() {
        isRecordedThoughSame("set() to the same", x -> x.set(8, 5));
        isRecordedThoughSame("tear() of less", x -> x.tear(1));
        isRecordedThoughSame("change() to the same", x -> x.change(1));
        isRecordedThoughSame("fill() of nothing", x -> x.fill(0, 0, 0));
        isRecordedThoughSame("drain() of an empty chest", x -> x.drain(2, 50));
        isRecordedThoughSame("plan() of the same text", x -> x.plan());
        BrokeLoop fresh = new BrokeLoop();
        fresh.keep(1);
        Checks.due("begin() of a new object", fresh.begin(), 0);
        Checks.due("it is a change", fresh.told(12), 1);
        Checks.due("back() to the same", fresh.back(1), 0);
        Checks.due("it is a change", fresh.told(12), 2);
        Checks.due("plan() of the empty text", fresh.plan(), 0);
        Checks.due("it is a change", fresh.told(12), 3);
    }

    private static void noOtherCallIsAChange() {
        BrokeLoop loop = busy();
        int changes = loop.told(12);
        int[] answers = {loop.write('q'), loop.plan(), loop.fault(0), loop.wipe(), loop.told(0), loop.setting(0),
                loop.chest(0, 0), loop.account(0), loop.paper(0), loop.entry(0, 0), loop.later(9, 0), loop.overflow(),
                loop.bestLimit(9), loop.keep(1), loop.back(2), loop.set(9, 0), loop.tear(0), loop.change(4),
                loop.fill(4, 0, 0), loop.drain(4, 1), loop.run(0)};
        Checks.due("calls", answers.length, 21);
        Checks.holds("a share", loop.paperShare() > 0.0f);
        Checks.due("changes", loop.told(12), changes);
    }

    private static void undoIsNoChange() {
        BrokeLoop loop = new BrokeLoop();
        loop.set(0, 1);
        loop.set(0, 2);
        Checks.due("undo()", loop.undo(), 1);
        Checks.due("setting", loop.setting(0), 1);
        Checks.due("undo()", loop.undo(), 0);
        Checks.due("setting", loop.setting(0), 40);
    }

    private static BrokeLoop changed(int changes) {
        BrokeLoop loop = new BrokeLoop();
        for (int i = 1; i <= changes; i++) {
            loop.set(2, i);
        }
        return loop;
    }

    /** "A history of at most 8 states is kept". */
    private static void eightChanges() {
        BrokeLoop loop = changed(7);
        Checks.due("7 changes", loop.told(12), 7);
        loop = changed(8);
        Checks.due("8 changes", loop.told(12), 8);
        for (int left = 7; left >= 0; left--) {
            Checks.due("undo()", loop.undo(), left);
            Checks.due("setting", loop.setting(2), left == 0 ? 500 : left);
        }
        Checks.due("undo() of no more", loop.undo(), STATE);
    }

    /** "If there are more than 8, the oldest one is dropped". */
    private static void nineChanges() {
        BrokeLoop loop = changed(9);
        Checks.due("9 changes", loop.told(12), 8);
        for (int left = 7; left >= 0; left--) {
            Checks.due("undo()", loop.undo(), left);
            Checks.due("setting", loop.setting(2), left + 1);
        }
        Checks.due("undo() of no more", loop.undo(), STATE);
        Checks.due("the oldest state is gone", loop.setting(2), 1);
    }

    /** So many changes that the history has wrapped around at each of its places. */
    private static void manyChanges() {
        for (int changes = 10; changes <= 34; changes++) {
            BrokeLoop loop = changed(changes);
            Checks.due(changes + " changes", loop.told(12), 8);
            for (int left = 7; left >= 0; left--) {
                Checks.due("undo()", loop.undo(), left);
                Checks.due("setting", loop.setting(2), changes - 8 + left);
            }
            Checks.due("undo() of no more", loop.undo(), STATE);
        }
    }

    private static void undoneAndChangedAgain() {
        for (int undone = 1; undone <= 8; undone++) {
            BrokeLoop loop = changed(11);
            for (int i = 0; i < undone; i++) {
                loop.undo();
            }
            Checks.due("left", loop.told(12), 8 - undone);
            for (int i = 1; i <= 3; i++) {
                loop.set(2, 100 + i);
            }
            int kept = Math.min(8, 8 - undone + 3);
            Checks.due("changes", loop.told(12), kept);
            int[] before = {11 - undone, 101, 102};
            for (int i = 0; i < kept; i++) {
                Checks.due("undo()", loop.undo(), kept - 1 - i);
                int due = i < 3 ? before[2 - i] : 11 - undone - (i - 2);
                Checks.due("setting", loop.setting(2), due);
            }
            Checks.due("undo() of no more", loop.undo(), STATE);
        }
    }

    /** "Records everything before it, except the text". */
    private static void undoLeavesTheText() {
        BrokeLoop loop = new BrokeLoop();
        loop.set(0, 1);
        Checks.write(loop, "b1:1");
        loop.undo();
        Checks.due("bytes", loop.told(11), 4);
        loop.plan();
        loop.wipe();
        loop.undo();
        Checks.due("bytes", loop.told(11), 0);
        Checks.due("entries", loop.told(8), 0);
    }

    /** "[..] the latest fault". */
    private static void undoLeavesTheFault() {
        BrokeLoop loop = new BrokeLoop();
        loop.set(0, 1);
        Checks.write(loop, "b1");
        loop.plan();
        loop.undo();
        Checks.due("kind", loop.fault(0), 3);
        Checks.due("place", loop.fault(1), 2);
    }

    /** "[..] and the images". */
    private static void undoLeavesTheImages() {
        BrokeLoop loop = new BrokeLoop();
        loop.keep(0);
        loop.set(0, 1);
        loop.keep(0);
        loop.keep(1);
        loop.undo();
        Checks.due("setting", loop.setting(0), 40);
        Checks.due("back(0)", loop.back(0), 0);
        Checks.due("setting of the image 0", loop.setting(0), 1);
        loop.undo();
        Checks.due("back(1)", loop.back(1), 0);
        Checks.due("setting of the image 1", loop.setting(0), 1);
    }

    private static void beginOfANewObject() {
        BrokeLoop loop = new BrokeLoop();
        String before = Checks.view(loop);
        Checks.due("begin()", loop.begin(), 0);
        Checks.same("begin() of a new object", Checks.view(loop), before);
    }

    /** "Everything is as at first, except settings, schedule, text, the latest fault and images." */
    private static void beginSetsAllAsAtFirst() {
        BrokeLoop loop = new BrokeLoop();
        loop.fill(1, 4000, 30000);
        loop.fill(3, 3000, 9000);
        loop.drain(0, 3000);
        loop.run(60);
        loop.change(2);
        loop.fill(2, 1000, 4000);
        loop.run(1);
        loop.change(3);
        loop.tear(9);
        for (int chest = 0; chest < 4; chest++) {
            loop.fill(chest, 100, 200);
            Checks.holds("chest " + chest + " before", loop.chest(chest, 0) > 0 && loop.chest(chest, 4) > 0);
        }
        Checks.due("begin()", loop.begin(), 61);
        Checks.same("begun", Checks.view(loop), Checks.view(new BrokeLoop()));
    }

    private static void beginLeaves() {
        BrokeLoop loop = busy();
        loop.set(5, 8);
        loop.set(0, 111);
        Checks.write(loop, "b7:x");
        loop.plan();
        Checks.due("begin()", loop.begin(), 8);
        Checks.due("a setting", loop.setting(5), 8);
        Checks.due("a setting", loop.setting(0), 111);
        Checks.due("entries", loop.told(8), 2);
        Checks.due("entries ahead", loop.told(9), 2);
        Checks.due("bytes", loop.told(11), 4);
        Checks.due("kind of the fault", loop.fault(0), 1);
        Checks.due("place of the fault", loop.fault(1), 3);
        Checks.due("the image", loop.back(0), 6);
        Checks.due("the other image", loop.back(1), STATE);
    }

    /** "This is a change." */
    private static void beginIsRecorded() {
        BrokeLoop loop = busy();
        String before = Checks.view(loop);
        Checks.due("changes before", loop.told(12), 5);
        loop.begin();
        Checks.due("changes behind", loop.told(12), 6);
        Checks.due("undo()", loop.undo(), 5);
        Checks.same("begin() is undone", Checks.view(loop), before);
        Checks.due("undo() of the change before it", loop.undo(), 4);
        Checks.due("clock", loop.told(0), 6);
    }

    private static void beginOfAFullHistory() {
        BrokeLoop loop = changed(8);
        loop.run(3);
        Checks.due("begin()", loop.begin(), 3);
        Checks.due("changes", loop.told(12), 8);
        Checks.due("undo()", loop.undo(), 7);
        Checks.due("clock", loop.told(0), 3);
    }

    /** "n: how many, 1 to 200"; "BAD if n is out of range". */
    private static void runTicks() {
        int[] wrong = {0, 201, -1, LOW, HIGH};
        for (int n : wrong) {
            BrokeLoop loop = new BrokeLoop();
            Checks.due("run(" + n + ")", loop.run(n), BAD);
            Checks.due("clock", loop.told(0), 0);
            Checks.due("changes", loop.told(12), 0);
        }
        int[] right = {1, 2, 199, 200};
        for (int n : right) {
            BrokeLoop loop = new BrokeLoop();
            Checks.holds("run(" + n + ")", loop.run(n) > 0);
            Checks.due("clock", loop.told(0), n);
            Checks.due("inflow", loop.account(0), 40 * n);
        }
    }

    /** "Does ticks. This is one change." */
    private static void runIsOneChange() {
        BrokeLoop loop = new BrokeLoop();
        loop.run(200);
        Checks.due("changes", loop.told(12), 1);
        Checks.due("undo()", loop.undo(), 0);
        Checks.due("clock", loop.told(0), 0);
    }

    /** "Returns the paper that was made in them", of all grades. */
    private static void runTellsItsOwnPaper() {
        BrokeLoop loop = Checks.planned("g3:1 g6:2");
        loop.set(8, 1);
        Checks.due("paper of 2 ticks", loop.run(2), 40);
        int made = loop.run(6);
        Checks.due("paper of two grades", made, loop.paper(1) + loop.paper(2));
        Checks.holds("some of both", loop.paper(1) > 0 && loop.paper(2) > 0);
        loop.tear(5);
        Checks.due("no paper", loop.run(5), 0);
    }

    /** "i: the image, 0 or 1"; "BAD if there is no such image". */
    private static void whichImages() {
        int[] wrong = {-1, 2, LOW, HIGH};
        BrokeLoop loop = new BrokeLoop();
        for (int i : wrong) {
            Checks.due("keep(" + i + ")", loop.keep(i), BAD);
            Checks.due("back(" + i + ")", loop.back(i), BAD);
        }
        loop.keep(0);
        loop.keep(1);
        for (int i : wrong) {
            Checks.due("back(" + i + ")", loop.back(i), BAD);
        }
        Checks.due("changes", loop.told(12), 0);
    }

    /** "STATE if nothing was kept in it." */
    private static void backOfNothing() {
        BrokeLoop loop = new BrokeLoop();
        Checks.due("back(0)", loop.back(0), STATE);
        Checks.due("back(1)", loop.back(1), STATE);
        loop.keep(1);
        Checks.due("back(0)", loop.back(0), STATE);
        Checks.due("changes", loop.told(12), 0);
        Checks.due("back(1)", loop.back(1), 0);
        loop = new BrokeLoop();
        loop.keep(0);
        Checks.due("back(1)", loop.back(1), STATE);
        Checks.due("back(0)", loop.back(0), 0);
    }

    private static void keepAtOnce() {
        BrokeLoop loop = new BrokeLoop();
        String before = Checks.view(loop);
        Checks.due("keep(0) of a new object", loop.keep(0), 0);
        loop.run(100);
        loop.change(3);
        Checks.due("back(0)", loop.back(0), 0);
        Checks.same("the new object", Checks.view(loop), before);
    }

    /** "Replacing what it kept before." */
    private static void keepReplaces() {
        BrokeLoop loop = new BrokeLoop();
        Checks.due("keep(0)", loop.keep(0), 0);
        loop.run(3);
        Checks.due("keep(0)", loop.keep(0), 3);
        loop.run(2);
        Checks.due("back(0)", loop.back(0), 3);
        loop.undo();
        Checks.due("clock", loop.told(0), 5);
        Checks.due("keep(0)", loop.keep(0), 5);
        loop.run(1);
        Checks.due("back(0)", loop.back(0), 5);
    }

    private static void twoImages() {
        BrokeLoop loop = new BrokeLoop();
        loop.run(1);
        loop.keep(0);
        loop.run(1);
        loop.keep(1);
        loop.run(1);
        Checks.due("back(0)", loop.back(0), 1);
        Checks.due("back(1)", loop.back(1), 2);
        Checks.due("back(0)", loop.back(0), 1);
        loop.keep(1);
        loop.run(7);
        Checks.due("back(1)", loop.back(1), 1);
    }

    /** "(This is no change.)" */
    private static void keepIsNoChange() {
        BrokeLoop loop = changed(3);
        String before = Checks.wholeView(loop);
        loop.keep(0);
        loop.keep(1);
        Checks.same("keep() changes nothing", Checks.wholeView(loop), before);
        Checks.due("undo()", loop.undo(), 2);
        Checks.due("setting", loop.setting(2), 2);
    }

    /** "Makes what an image keeps the present state; the image stays." */
    private static void imageStays() {
        BrokeLoop loop = busy();
        loop.keep(1);
        String kept = Checks.view(loop);
        loop.run(9);
        Checks.due("back(1)", loop.back(1), 8);
        Checks.same("the image", Checks.view(loop), kept);
        loop.set(0, 200);
        loop.fill(2, 100, 100);
        loop.wipe();
        loop.plan();
        loop.run(20);
        Checks.due("back(1) again", loop.back(1), 8);
        Checks.same("the image again", Checks.view(loop), kept);
        loop.undo();
        loop.undo();
        Checks.due("back(1) once more", loop.back(1), 8);
        Checks.same("the image once more", Checks.view(loop), kept);
    }

    /** "Keeps everything, except the text, the latest fault [..]". */
    private static void imageLeavesTextAndFault() {
        BrokeLoop loop = new BrokeLoop();
        Checks.write(loop, "b1");
        loop.plan();
        loop.keep(0);
        Checks.write(loop, "b0:1 b2");
        loop.plan();
        loop.back(0);
        Checks.due("bytes", loop.told(11), 7);
        Checks.due("kind", loop.fault(0), 2);
        Checks.due("place", loop.fault(1), 1);
        loop = new BrokeLoop();
        loop.keep(0);
        Checks.write(loop, "b");
        loop.plan();
        loop.back(0);
        Checks.due("bytes", loop.told(11), 1);
        Checks.due("kind", loop.fault(0), 3);
    }

    /** "[..] and what can be undone"; "it is recorded behind those that are recorded already". */
    private static void imageLeavesWhatCanBeUndone() {
        BrokeLoop loop = changed(2);
        loop.keep(0);
        loop.set(2, 3);
        loop.set(2, 4);
        Checks.due("back(0)", loop.back(0), 0);
        Checks.due("changes", loop.told(12), 5);
        Checks.due("setting", loop.setting(2), 2);
        int[] due = {4, 3, 2, 1, 500};
        for (int i = 0; i < due.length; i++) {
            Checks.due("undo()", loop.undo(), 4 - i);
            Checks.due("setting", loop.setting(2), due[i]);
        }
        Checks.due("undo() of no more", loop.undo(), STATE);
        Checks.due("back(0) where nothing can be undone", loop.back(0), 0);
        Checks.due("changes", loop.told(12), 1);
        Checks.due("setting", loop.setting(2), 2);
    }

    private static void backOfAFullHistory() {
        BrokeLoop loop = changed(3);
        loop.keep(1);
        for (int i = 4; i <= 9; i++) {
            loop.set(2, i);
        }
        Checks.due("changes", loop.told(12), 8);
        loop.back(1);
        Checks.due("changes", loop.told(12), 8);
        Checks.due("setting", loop.setting(2), 3);
        for (int left = 7; left >= 0; left--) {
            Checks.due("undo()", loop.undo(), left);
            Checks.due("setting", loop.setting(2), left + 2);
        }
        Checks.due("undo() of no more", loop.undo(), STATE);
    }

    /** Promise 1: a new object is as at first, whatever other objects did. */
    private static void twoObjects() {
        BrokeLoop first = busy();
        Checks.write(first, "b");
        first.plan();
        first.keep(1);
        BrokeLoop second = new BrokeLoop();
        String before = Checks.view(second);
        Checks.due("bytes", second.told(11), 0);
        Checks.due("changes", second.told(12), 0);
        Checks.due("fault(0)", second.fault(0), NONE);
        Checks.due("back(0)", second.back(0), STATE);
        Checks.due("back(1)", second.back(1), STATE);
        Checks.due("entries", second.told(8), 0);
        first.run(50);
        first.set(0, 0);
        Checks.same("another object changes nothing", Checks.view(second), before);
    }
}
