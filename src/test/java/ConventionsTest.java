import java.util.function.ToIntFunction;

/** CONVENTIONS: the error codes, their order, and that a call which returns one changes nothing. */
public final class ConventionsTest {
    private static final int BAD = BrokeLoop.BAD, STATE = BrokeLoop.STATE, FULL = BrokeLoop.FULL, NONE = BrokeLoop.NONE;

    public static void main(String[] args) {
        badGoesAheadOfFull();
        badGoesAheadOfState();
        badGoesAheadOfNone();
        badSettingWithBadValue();
        refusedChanges();
        refusedImages();
        refusedText();
        refusedQuestions();
        refusedUndo();
        refusedBackOfNothing();
        refusedWriteIntoFullText();
        refusedPlanChangesTheFaultAlone();
        otherRefusalsLeaveTheFault();
        divisionsRoundDown();
        Checks.end("ConventionsTest");
    }

    /** "If several of them apply to one call, the first one in this list is returned": BAD and FULL. */
    private static void badGoesAheadOfFull() {
        BrokeLoop loop = new BrokeLoop();
        for (int i = 0; i < 120; i++) {
            loop.write(32);
        }
        Checks.due("write(31) into a full text", loop.write(31), BAD);
        Checks.due("write(127) into a full text", loop.write(127), BAD);
        Checks.due("write(32) into a full text", loop.write(32), FULL);
        Checks.due("write(126) into a full text", loop.write(126), FULL);
    }

    /** "If several of them apply to one call, the first one in this list is returned": BAD and STATE. */
    private static void badGoesAheadOfState() {
        BrokeLoop loop = new BrokeLoop();
        Checks.due("back(-1) where nothing is kept", loop.back(-1), BAD);
        Checks.due("back(2) where nothing is kept", loop.back(2), BAD);
        Checks.due("back(1) where nothing is kept", loop.back(1), STATE);
    }

    /** "NONE (-9) means that there is no such value; it is returned only if no error code applies". */
    private static void badGoesAheadOfNone() {
        BrokeLoop loop = new BrokeLoop();
        Checks.due("fault(-1) without a fault", loop.fault(-1), BAD);
        Checks.due("fault(2) without a fault", loop.fault(2), BAD);
        Checks.due("fault(0) without a fault", loop.fault(0), NONE);
        Checks.due("fault(1) without a fault", loop.fault(1), NONE);
        Checks.due("told(13) before a tick", loop.told(13), BAD);
        Checks.due("told(6) before a tick", loop.told(6), NONE);
        Checks.due("told(7) before a tick", loop.told(7), NONE);
    }

    private static void badSettingWithBadValue() {
        BrokeLoop loop = new BrokeLoop();
        Checks.due("set(-1, -1)", loop.set(-1, -1), BAD);
        Checks.due("set(9, 5001)", loop.set(9, 5001), BAD);
        Checks.due("fill(4, -1, 50001)", loop.fill(4, -1, 50001), BAD);
        Checks.due("entry(0, 3) of no entry", loop.entry(0, 3), BAD);
    }

    /** A loop in which every part has something: two images, a schedule, changes, a text and a fault. */
    private static BrokeLoop busy() {
        BrokeLoop loop = Checks.planned("g9:1 f14:600 b16:3");
        loop.set(0, 50);
        loop.run(7);
        loop.keep(0);
        loop.fill(1, 500, 3000);
        loop.keep(1);
        loop.tear(4);
        loop.run(3);
        Checks.write(loop, "b1:1 q");
        Checks.due("plan() of a wrong text", loop.plan(), STATE);
        return loop;
    }

    /** "A call that returns one of them changes nothing, except the latest fault." */
    private static void refused(String call, int code, ToIntFunction<BrokeLoop> called) {
        BrokeLoop loop = busy();
        BrokeLoop twin = busy();
        Checks.due(call, called.applyAsInt(loop), code);
        areTwins(call, loop, twin);
    }

    /** Looks at the present state, then at the text, at what undo brings, and at both images. */
    private static void areTwins(String call, BrokeLoop loop, BrokeLoop twin) {
        Checks.same(call + " changes nothing", Checks.wholeView(loop), Checks.wholeView(twin));
        Checks.due(call + ": plan()", loop.plan(), twin.plan());
        Checks.due(call + ": undo()", loop.undo(), twin.undo());
        Checks.same(call + " leaves what can be undone", Checks.view(loop), Checks.view(twin));
        Checks.due(call + ": back(0)", loop.back(0), twin.back(0));
        Checks.same(call + " leaves the image 0", Checks.view(loop), Checks.view(twin));
        Checks.due(call + ": back(1)", loop.back(1), twin.back(1));
        Checks.same(call + " leaves the image 1", Checks.view(loop), Checks.view(twin));
    }

    private static void refusedChanges() {
        int[] most = {200, 5000, 2000, 1000, 100, 8, 50, 2000, 20};
        for (int i = 0; i < 9; i++) {
            int setting = i;
            refused("set() to less than the least", BAD, x -> x.set(setting, setting == 4 ? 0 : -1));
            refused("set() to more than the most", BAD, x -> x.set(setting, most[setting] + 1));
        }
        refused("set(-1, 1)", BAD, x -> x.set(-1, 1));
        refused("set(9, 1)", BAD, x -> x.set(9, 1));
        refused("tear(0)", BAD, x -> x.tear(0));
        refused("tear(51)", BAD, x -> x.tear(51));
        refused("change(-1)", BAD, x -> x.change(-1));
        refused("change(4)", BAD, x -> x.change(4));
        refused("fill(-1, 1, 1)", BAD, x -> x.fill(-1, 1, 1));
        refused("fill(4, 1, 1)", BAD, x -> x.fill(4, 1, 1));
        refused("fill(1, -1, 1)", BAD, x -> x.fill(1, -1, 1));
        refused("fill(1, 5001, 1)", BAD, x -> x.fill(1, 5001, 1));
        refused("fill(1, 1, -1)", BAD, x -> x.fill(1, 1, -1));
        refused("fill(1, 1, 50001)", BAD, x -> x.fill(1, 1, 50001));
        refused("drain(-1, 1)", BAD, x -> x.drain(-1, 1));
        refused("drain(4, 1)", BAD, x -> x.drain(4, 1));
        refused("drain(0, 0)", BAD, x -> x.drain(0, 0));
        refused("drain(0, 50001)", BAD, x -> x.drain(0, 50001));
        refused("run(0)", BAD, x -> x.run(0));
        refused("run(201)", BAD, x -> x.run(201));
    }

    private static void refusedImages() {
        refused("keep(-1)", BAD, x -> x.keep(-1));
        refused("keep(2)", BAD, x -> x.keep(2));
        refused("back(-1)", BAD, x -> x.back(-1));
        refused("back(2)", BAD, x -> x.back(2));
    }

    private static void refusedText() {
        refused("write(31)", BAD, x -> x.write(31));
        refused("write(127)", BAD, x -> x.write(127));
    }

    private static void refusedQuestions() {
        refused("fault(2)", BAD, x -> x.fault(2));
        refused("told(13)", BAD, x -> x.told(13));
        refused("setting(9)", BAD, x -> x.setting(9));
        refused("chest(4, 0)", BAD, x -> x.chest(4, 0));
        refused("chest(0, 5)", BAD, x -> x.chest(0, 5));
        refused("account(8)", BAD, x -> x.account(8));
        refused("paper(4)", BAD, x -> x.paper(4));
        refused("entry(3, 0)", BAD, x -> x.entry(3, 0));
        refused("entry(0, 3)", BAD, x -> x.entry(0, 3));
        refused("later(0, 0)", BAD, x -> x.later(0, 0));
        refused("later(301, 0)", BAD, x -> x.later(301, 0));
        refused("later(1, 4)", BAD, x -> x.later(1, 4));
        refused("bestLimit(0)", BAD, x -> x.bestLimit(0));
        refused("bestLimit(101)", BAD, x -> x.bestLimit(101));
    }

    private static void refusedUndo() {
        BrokeLoop loop = busy();
        BrokeLoop twin = busy();
        for (int left = 5; left >= 0; left--) {
            Checks.due("undo()", loop.undo(), left);
            twin.undo();
        }
        Checks.due("undo() of nothing", loop.undo(), STATE);
        Checks.same("undo() of nothing changes nothing", Checks.wholeView(loop), Checks.wholeView(twin));
        Checks.due("back(0) behind it", loop.back(0), 7);
        Checks.due("the next change is the first one", loop.told(12), 1);
    }

    private static void refusedBackOfNothing() {
        BrokeLoop loop = Checks.planned("b3:2");
        loop.keep(0);
        loop.run(5);
        String before = Checks.wholeView(loop);
        Checks.due("back(1) of nothing", loop.back(1), STATE);
        Checks.same("back(1) of nothing changes nothing", Checks.wholeView(loop), before);
        Checks.due("the other image stays", loop.back(0), 0);
    }

    private static void refusedWriteIntoFullText() {
        BrokeLoop loop = new BrokeLoop();
        String text = " ".repeat(116) + "b1:1";
        Checks.write(loop, text);
        String before = Checks.wholeView(loop);
        Checks.due("write(48) into a full text", loop.write('0'), FULL);
        Checks.same("write() into a full text changes nothing", Checks.wholeView(loop), before);
        Checks.due("the text is as it was", loop.plan(), 1);
        Checks.due("the number is as it was", loop.entry(0, 2), 1);
    }

    /** "A call that returns one of them changes nothing, except the latest fault": plan() with STATE. */
    private static void refusedPlanChangesTheFaultAlone() {
        BrokeLoop loop = busy();
        BrokeLoop twin = busy();
        loop.write('x');
        twin.write('x');
        loop.wipe();
        twin.wipe();
        loop.write('b');
        twin.write('b');
        Checks.due("plan() of 'b'", loop.plan(), STATE);
        Checks.due("its kind", loop.fault(0), 3);
        Checks.due("its place", loop.fault(1), 1);
        Checks.due("the kind before", twin.fault(0), 1);
        Checks.due("the place before", twin.fault(1), 5);
        Checks.due("the text stays", loop.told(11), 1);
        Checks.due("the changes stay", loop.told(12), twin.told(12));
        Checks.same("all else stays", Checks.view(loop), Checks.view(twin));
        Checks.due("undo()", loop.undo(), twin.undo());
        Checks.same("what is undone stays", Checks.view(loop), Checks.view(twin));
    }

    /** The fault is the latest one of plan(): no other call that is refused leaves a fault or takes one away. */
    private static void otherRefusalsLeaveTheFault() {
        BrokeLoop loop = new BrokeLoop();
        loop.undo();
        loop.back(0);
        loop.write(31);
        loop.run(0);
        Checks.due("no fault", loop.fault(0), NONE);
        Checks.write(loop, "b0");
        loop.plan();
        loop.undo();
        loop.back(0);
        loop.write(31);
        loop.run(0);
        Checks.due("the kind", loop.fault(0), 2);
        Checks.due("the place", loop.fault(1), 1);
    }

    /** "Divisions by "/" round towards minus infinity." */
    private static void divisionsRoundDown() {
        BrokeLoop loop = new BrokeLoop();
        loop.fill(1, 1999, 1);
        Checks.due("999.5 of consistency", loop.chest(1, 2), 999);
        Checks.due("1.999 of fibre", loop.drain(1, 2), 1);
        loop = new BrokeLoop();
        loop.fill(1, 1000, 0);
        loop.set(2, 399);
        loop.set(3, 5);
        loop.run(1);
        Checks.due("1.995 of broke", loop.chest(1, 0), 999);
        loop = new BrokeLoop();
        loop.set(5, 0);
        loop.run(1);
        loop.set(2, 19);
        loop.set(6, 0);
        Checks.due("the valve", loop.told(4), 100);
        loop.run(1);
        // 1.9 of water besides 19 of stock, of which 19 go onto the machine.
        Checks.due("1.9 of water", Checks.mass(loop, 3), 1);
    }
}
