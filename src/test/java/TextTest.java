/** The text, how it is read as a schedule, its faults, and how the schedule is carried out. */
public final class TextTest {
    private static final int BAD = BrokeLoop.BAD, STATE = BrokeLoop.STATE, FULL = BrokeLoop.FULL, NONE = BrokeLoop.NONE;

    private static final int ANY_BYTE = 1, RANGE = 2, END = 3, MANY = 4;

    public static void main(String[] args) {
        writing();
        goodTexts();
        wrongBytes();
        wrongNumbers();
        shortTexts();
        manyEntries();
        latestFault();
        order();
        carriedOut();
        pastEntries();
        entriesThatWere();
        entriesThatAreNone();
        Checks.end("TextTest");
    }

    private static void writing() {
        BrokeLoop loop = new BrokeLoop();
        int[] wrong = {31, 127, 0, -1, 256, 32 + 256, Integer.MIN_VALUE, Integer.MAX_VALUE};
        for (int code : wrong) {
            Checks.due("write(" + code + ")", loop.write(code), BAD);
        }
        Checks.due("wipe() of nothing", loop.wipe(), 0);
        for (int i = 1; i <= 120; i++) {
            Checks.due("write() number " + i, loop.write(i % 2 == 0 ? 32 : 126), i);
        }
        Checks.due("bytes", loop.told(11), 120);
        Checks.due("write() number 121", loop.write(32), FULL);
        Checks.due("write(31) of a full text", loop.write(31), BAD);
        Checks.due("bytes", loop.told(11), 120);
        Checks.due("wipe()", loop.wipe(), 120);
        Checks.due("bytes", loop.told(11), 0);
        Checks.due("write() again", loop.write(32), 1);
        Checks.due("changes", loop.told(12), 0);
    }

    private static void good(String text, int entries) {
        BrokeLoop loop = new BrokeLoop();
        Checks.write(loop, text);
        Checks.due("plan() of '" + text + "'", loop.plan(), entries);
        Checks.due("entries of '" + text + "'", loop.told(8), entries);
        Checks.due("fault of '" + text + "'", loop.fault(0), NONE);
        Checks.due("place of '" + text + "'", loop.fault(1), NONE);
        Checks.due("the text '" + text + "' stays", loop.told(11), text.length());
        Checks.due("changes of '" + text + "'", loop.told(12), 1);
    }

    private static void bad(String text, int kind, int place) {
        BrokeLoop loop = new BrokeLoop();
        Checks.write(loop, text);
        Checks.due("plan() of '" + text + "'", loop.plan(), STATE);
        Checks.due("kind of '" + text + "'", loop.fault(0), kind);
        Checks.due("place of '" + text + "'", loop.fault(1), place);
        Checks.due("the text '" + text + "' stays", loop.told(11), text.length());
        Checks.due("entries of '" + text + "'", loop.told(8), 0);
        Checks.due("changes of '" + text + "'", loop.told(12), 0);
    }

    private static void goodTexts() {
        good("", 0);
        good(" ", 0);
        good("    ", 0);
        good("b1:1", 1);
        good("  b1:1   g2:3 f3:2000  ", 3);
        good("b9999:50", 1);
        good("b0001:0001", 1);
        good("g1:0", 1);
        good("g1:3", 1);
        good("f1:0", 1);
        good("f1:2000", 1);
        good("f1:0000 g0010:0003", 2);
        good("b1:1 ".repeat(20), 20);
        good("b1:1 ".repeat(20) + " ".repeat(20), 20);
    }

    private static void wrongBytes() {
        bad("x", ANY_BYTE, 0);
        bad("B1:1", ANY_BYTE, 0);
        bad("1", ANY_BYTE, 0);
        bad("  :", ANY_BYTE, 2);
        bad("a1:1", ANY_BYTE, 0);
        bad("c1:1", ANY_BYTE, 0);
        bad("e1:1", ANY_BYTE, 0);
        bad("h1:1", ANY_BYTE, 0);
        bad("b:1", ANY_BYTE, 1);
        bad("b 1:1", ANY_BYTE, 1);
        bad("b/:1", ANY_BYTE, 1);
        bad("bb", ANY_BYTE, 1);
        bad("b1 :1", ANY_BYTE, 2);
        bad("b1;1", ANY_BYTE, 2);
        bad("b1b", ANY_BYTE, 2);
        bad("b1: 1", ANY_BYTE, 3);
        bad("b1::1", ANY_BYTE, 3);
        bad("b1:1:", ANY_BYTE, 4);
        bad("b1:1g2:1", ANY_BYTE, 4);
        bad("b1:1-", ANY_BYTE, 4);
        bad("b1:-1", ANY_BYTE, 3);
        bad("b12345:1", ANY_BYTE, 5);
        bad("b00000:1", ANY_BYTE, 5);
        bad("b00001:1", ANY_BYTE, 5);
        bad("b12345", ANY_BYTE, 5);
        bad("b1:00001", ANY_BYTE, 7);
        bad("b1:99999", ANY_BYTE, 7);
        bad("f1:20000", ANY_BYTE, 7);
        bad("b1:1 x", ANY_BYTE, 5);
        bad("b1:1 b2:x", ANY_BYTE, 8);
    }

    private static void wrongNumbers() {
        bad("b0:1", RANGE, 1);
        bad("b0", RANGE, 1);
        bad("b0000", RANGE, 1);
        bad("b0x", RANGE, 1);
        bad("b0 ", RANGE, 1);
        bad("  g00:9", RANGE, 3);
        bad("b1:0", RANGE, 3);
        bad("b1:51", RANGE, 3);
        bad("b1:51 ", RANGE, 3);
        bad("b1:51x", RANGE, 3);
        bad("b1:51:", RANGE, 3);
        bad("b1:9999", RANGE, 3);
        bad("g1:4", RANGE, 3);
        bad("g1:4g", RANGE, 3);
        bad("g12:0004", RANGE, 4);
        bad("f1:2001", RANGE, 3);
        bad("b1:1 f1:2001 x", RANGE, 8);
        bad("b1:51 b0:1", RANGE, 3);
    }

    private static void shortTexts() {
        bad("b", END, 1);
        bad("b1", END, 2);
        bad("b1234", END, 5);
        bad("b1:", END, 3);
        bad("b1:1 b", END, 6);
        bad("b1:1   f10:", END, 11);
    }

    private static void manyEntries() {
        String full = "b1:1 ".repeat(20);
        bad(full + "b1:1", MANY, 100);
        bad(full + "b", MANY, 100);
        bad(full + "  g0", MANY, 102);
        bad(full + "x", ANY_BYTE, 100);
        bad("b1:1 ".repeat(19) + "b1:1b1:1", ANY_BYTE, 99);
        bad("b1:1 ".repeat(19) + "b1:0 b1:1", RANGE, 98);
    }

    private static void latestFault() {
        BrokeLoop loop = new BrokeLoop();
        int[] wrong = {-1, 2, Integer.MIN_VALUE, Integer.MAX_VALUE};
        for (int what : wrong) {
            Checks.due("fault(" + what + ") without a fault", loop.fault(what), BAD);
        }
        Checks.write(loop, "b1:1 q");
        loop.plan();
        for (int what : wrong) {
            Checks.due("fault(" + what + ")", loop.fault(what), BAD);
        }
        loop.set(0, 1);
        loop.keep(0);
        Checks.write(loop, "b1");
        Checks.due("plan()", loop.plan(), STATE);
        loop.undo();
        loop.back(0);
        loop.begin();
        Checks.write(loop, "b1:1");
        Checks.due("the fault stays", loop.fault(0), END);
        Checks.due("plan()", loop.plan(), 1);
        Checks.due("the fault stays behind a good text", loop.fault(0), END);
        Checks.due("its place too", loop.fault(1), 2);
        Checks.write(loop, "b1:99");
        Checks.due("plan()", loop.plan(), STATE);
        Checks.due("a newer fault", loop.fault(0), RANGE);
        Checks.due("its place", loop.fault(1), 3);
        Checks.due("the schedule stays", loop.told(8), 1);
    }

    private static void entryIs(BrokeLoop loop, int entry, int time, int kind, int number) {
        Checks.due("time of entry " + entry, loop.entry(entry, 0), time);
        Checks.due("kind of entry " + entry, loop.entry(entry, 1), kind);
        Checks.due("number of entry " + entry, loop.entry(entry, 2), number);
    }

    private static void order() {
        BrokeLoop loop = Checks.planned("f9:7 b5:3 g9:2 b1:50 f5:0 g5:1 b9:1");
        entryIs(loop, 0, 1, 0, 50);
        entryIs(loop, 1, 5, 0, 3);
        entryIs(loop, 2, 5, 2, 0);
        entryIs(loop, 3, 5, 1, 1);
        entryIs(loop, 4, 9, 2, 7);
        entryIs(loop, 5, 9, 1, 2);
        entryIs(loop, 6, 9, 0, 1);
        Checks.due("entry behind the last", loop.entry(7, 0), BAD);
        Checks.write(loop, "g2:3");
        Checks.due("plan() replaces", loop.plan(), 1);
        entryIs(loop, 0, 2, 1, 3);
        Checks.due("entry that was", loop.entry(1, 0), BAD);
        loop.wipe();
        Checks.due("plan() of nothing", loop.plan(), 0);
        Checks.due("entry that was", loop.entry(0, 0), BAD);
    }

    private static void carriedOut() {
        BrokeLoop loop = Checks.planned("g2:1 g2:3 f3:100 b4:2 b5:9 b6:1");
        Checks.due("entries ahead", loop.told(9), 6);
        loop.run(1);
        Checks.due("grade before", loop.told(1), 0);
        loop.run(1);
        Checks.due("grade", loop.told(1), 3);
        Checks.due("off grade time, a tick later", loop.told(3), 4);
        Checks.due("entries ahead", loop.told(9), 4);
        Checks.due("flow before", loop.setting(2), 500);
        loop.run(1);
        Checks.due("flow", loop.setting(2), 100);
        Checks.due("sheet before", loop.told(2), 0);
        loop.run(1);
        Checks.due("broken", loop.told(2), 1);
        loop.run(1);
        Checks.due("the greater time holds", loop.told(2), 8);
        loop.run(1);
        Checks.due("the greater time holds", loop.told(2), 7);
        Checks.due("entries", loop.told(8), 6);
        Checks.due("entries ahead", loop.told(9), 0);
        BrokeLoop same = Checks.planned("g1:0 f1:0");
        Checks.due("a flow of 0 in its tick", same.run(1), 0);
        Checks.due("the same grade is on grade", same.told(10), 0);
    }

    private static void pastEntries() {
        BrokeLoop loop = new BrokeLoop();
        loop.run(5);
        Checks.write(loop, "f3:100 f5:200 f6:300");
        Checks.due("plan()", loop.plan(), 3);
        Checks.due("entries ahead", loop.told(9), 1);
        Checks.due("flow", loop.setting(2), 500);
        loop.run(1);
        Checks.due("flow", loop.setting(2), 300);
        loop.begin();
        Checks.due("entries ahead again", loop.told(9), 3);
        Checks.due("entries", loop.told(8), 3);
        loop.run(3);
        Checks.due("flow", loop.setting(2), 100);
    }

    private static void entriesThatWere() {
        BrokeLoop loop = Checks.planned("b2:9 b3:9 g4:1 f5:7");
        Checks.write(loop, "g1:2");
        loop.plan();
        Checks.due("entries ahead", loop.told(9), 1);
        loop.run(1);
        Checks.due("entries ahead", loop.told(9), 0);
        loop.run(9);
        Checks.due("sheet", loop.told(2), 0);
        Checks.due("grade", loop.told(1), 2);
        Checks.due("flow", loop.setting(2), 500);
    }

    private static void entriesThatAreNone() {
        BrokeLoop loop = new BrokeLoop();
        Checks.due("entry(0, 0) of none", loop.entry(0, 0), BAD);
        loop = Checks.planned("b1:1 ".repeat(20));
        int[] wrong = {-1, 20, 21, Integer.MIN_VALUE, Integer.MAX_VALUE};
        for (int entry : wrong) {
            Checks.due("entry(" + entry + ", 0)", loop.entry(entry, 0), BAD);
        }
        int[] wrongWhats = {-1, 3, Integer.MIN_VALUE, Integer.MAX_VALUE};
        for (int what : wrongWhats) {
            Checks.due("entry(0, " + what + ")", loop.entry(0, what), BAD);
        }
        Checks.due("entry(19, 2)", loop.entry(19, 2), 1);
    }
}
