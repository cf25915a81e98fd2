/** What README.md shows: its examples, each with the answer that it tells. */
public final class ReadmeTest {
    public static void main(String[] args) {
        use();
        fault();
        images();
        Checks.end("ReadmeTest");
    }

    private static void use() {
        BrokeLoop loop = new BrokeLoop();
        Checks.due("set(2, 600)", loop.set(2, 600), 500);
        append(loop, "b5:3 g20:1");
        Checks.due("plan()", loop.plan(), 2);
        Checks.due("run(100)", loop.run(100), 1655);
        Checks.due("paper(1)", loop.paper(1), 1363);
        Checks.due("paperShare()", loop.paperShare(), 0.91689754f);
        Checks.due("told(10)", loop.told(10), 8);
        Checks.due("later(50, 0)", loop.later(50, 0), 900);
        Checks.due("overflow()", loop.overflow(), 89);
        Checks.due("undo()", loop.undo(), 2);
        Checks.due("told(0)", loop.told(0), 0);
    }

    private static void fault() {
        BrokeLoop loop = new BrokeLoop();
        append(loop, "b5:51 g20:1");
        Checks.due("plan()", loop.plan(), BrokeLoop.STATE);
        Checks.due("fault(0)", loop.fault(0), 2);
        Checks.due("fault(1)", loop.fault(1), 3);
        Checks.due("wipe()", loop.wipe(), 11);
    }

    private static void images() {
        BrokeLoop loop = new BrokeLoop();
        Checks.due("keep(0)", loop.keep(0), 0);
        Checks.due("run(10)", loop.run(10), 172);
        Checks.due("back(0)", loop.back(0), 0);
        Checks.due("undo()", loop.undo(), 1);
        Checks.due("told(0)", loop.told(0), 10);
    }

    private static void append(BrokeLoop loop, String text) {
        for (char c : text.toCharArray()) {
            loop.write(c);
        }
    }
}
