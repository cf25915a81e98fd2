/** THE TEXT at its edges: an empty and a full text, each limit of a number, each place of a fault. */
public final class TextEdgesTest {
    private static final int BAD = BrokeLoop.BAD, STATE = BrokeLoop.STATE, FULL = BrokeLoop.FULL, NONE = BrokeLoop.NONE;
    private static final int ANY_BYTE = 1, RANGE = 2, END = 3, MANY = 4;
    private static final int MOST_BYTES = 120;

    public static void main(String[] args) {
        emptyText();
        codes();
        fullText();
        fullTextIsWipedAndWritten();
        fullTextOfBlanks();
        fullTextWithAnEntryAtItsEnd();
        fullTextWithAFaultAtItsEnd();
        blanksBetweenEntries();
        blanksAtTheEnds();
        noBlanksWithin();
        letters();
        digits();
        times();
        lengths();
        gradesTold();
        flows();
        fourDigits();
        fifthDigit();
        secondEntryWithoutABlank();
        rangeGoesAheadOfTheNextByte();
        rangeAtTheEnd();
        endWithinAnEntry();
        twentyFirstEntry();
        firstFaultCounts();
        noFault();
        latestFault();
        whichFaultNumbers();
        Checks.end("TextEdgesTest");
    }

    private static BrokeLoop good(String text, int entries) {
        BrokeLoop loop = new BrokeLoop();
        Checks.write(loop, text);
        Checks.due("plan() of '" + text + "'", loop.plan(), entries);
        Checks.due("entries of '" + text + "'", loop.told(8), entries);
        Checks.due("fault of '" + text + "'", loop.fault(0), NONE);
        Checks.due("changes of '" + text + "'", loop.told(12), 1);
        return loop;
    }

    private static void bad(String text, int kind, int place) {
        BrokeLoop loop = new BrokeLoop();
        Checks.write(loop, text);
        Checks.due("plan() of '" + text + "'", loop.plan(), STATE);
        Checks.due("kind of '" + text + "'", loop.fault(0), kind);
        Checks.due("place of '" + text + "'", loop.fault(1), place);
        Checks.due("entries of '" + text + "'", loop.told(8), 0);
        Checks.due("changes of '" + text + "'", loop.told(12), 0);
    }

    /** The text "is empty at first". */
    private static void emptyText() {
        BrokeLoop loop = new BrokeLoop();
        Checks.due("bytes", loop.told(11), 0);
        Checks.due("wipe()", loop.wipe(), 0);
        Checks.due("plan()", loop.plan(), 0);
        Checks.due("write(32)", loop.write(32), 1);
        Checks.due("bytes", loop.told(11), 1);
        Checks.due("wipe()", loop.wipe(), 1);
        Checks.due("wipe() again", loop.wipe(), 0);
        Checks.due("bytes", loop.told(11), 0);
    }

    /** "Codes from 32 to 126"; "BAD if code is out of range". */
    private static void codes() {
        int[] wrong = {31, 127, 0, -1, 128, 255, 256 + 32, 65536 + 98, Integer.MIN_VALUE, Integer.MAX_VALUE};
        BrokeLoop loop = new BrokeLoop();
        for (int code : wrong) {
            Checks.due("write(" + code + ")", loop.write(code), BAD);
            Checks.due("bytes", loop.told(11), 0);
        }
        for (int code = 32; code <= 126; code++) {
            Checks.due("write(" + code + ")", loop.write(code), code - 31);
        }
    }

    /** "The text has at most 120 bytes"; "FULL if the text has 120 bytes". */
    private static void fullText() {
        BrokeLoop loop = new BrokeLoop();
        for (int i = 1; i <= MOST_BYTES; i++) {
            Checks.due("byte " + i, loop.write(32 + i % 95), i);
        }
        Checks.due("byte 121", loop.write(32), FULL);
        Checks.due("byte 121 again", loop.write(126), FULL);
        Checks.due("bytes", loop.told(11), MOST_BYTES);
    }

    private static void fullTextIsWipedAndWritten() {
        BrokeLoop loop = new BrokeLoop();
        Checks.write(loop, "x".repeat(MOST_BYTES));
        Checks.due("wipe()", loop.wipe(), MOST_BYTES);
        Checks.due("bytes", loop.told(11), 0);
        Checks.due("plan() of the wiped text", loop.plan(), 0);
        Checks.write(loop, " ".repeat(MOST_BYTES - 4) + "b1:1");
        Checks.due("plan() of the new text", loop.plan(), 1);
        Checks.due("one more", loop.write(' '), FULL);
        loop.wipe();
        loop.write('b');
        Checks.due("a short text behind a long one", loop.plan(), STATE);
        Checks.due("its kind", loop.fault(0), END);
        Checks.due("its place", loop.fault(1), 1);
    }

    private static void fullTextOfBlanks() {
        good(" ".repeat(MOST_BYTES), 0);
        good(" ".repeat(MOST_BYTES - 1), 0);
    }

    private static void fullTextWithAnEntryAtItsEnd() {
        BrokeLoop loop = good(" ".repeat(MOST_BYTES - 10) + "f9999:2000", 1);
        Checks.due("time", loop.entry(0, 0), 9999);
        Checks.due("flow", loop.entry(0, 2), 2000);
        loop = good("b1:1 ".repeat(19) + " ".repeat(15) + "f9999:1234", 20);
        Checks.due("flow", loop.entry(19, 2), 1234);
    }

    private static void fullTextWithAFaultAtItsEnd() {
        bad(" ".repeat(MOST_BYTES - 1) + "x", ANY_BYTE, 119);
        bad(" ".repeat(MOST_BYTES - 1) + "b", END, 120);
        bad(" ".repeat(MOST_BYTES - 2) + "g7", END, 120);
        bad(" ".repeat(MOST_BYTES - 3) + "g7:", END, 120);
        bad(" ".repeat(MOST_BYTES - 4) + "g7:4", RANGE, 119);
        bad(" ".repeat(MOST_BYTES - 2) + "g0", RANGE, 119);
        bad(" ".repeat(MOST_BYTES - 8) + "g7:00001", ANY_BYTE, 119);
        bad("b1:1 ".repeat(20) + " ".repeat(19) + "b", MANY, 119);
    }

    /** "With one or more blanks between two of them". */
    private static void blanksBetweenEntries() {
        good("b1:1 b2:2", 2);
        good("b1:1  b2:2", 2);
        good("b1:1" + " ".repeat(112) + "b2:2", 2);
        bad("b1:1b2:2", ANY_BYTE, 4);
    }

    /** "And blanks as one likes at the beginning and at the end". */
    private static void blanksAtTheEnds() {
        good("b1:1", 1);
        good(" b1:1", 1);
        good("b1:1 ", 1);
        good("   b1:1    ", 1);
        good(" ".repeat(116) + "b1:1", 1);
        good("b1:1" + " ".repeat(116), 1);
    }

    /** "Without blanks within". */
    private static void noBlanksWithin() {
        bad("b 1:1", ANY_BYTE, 1);
        bad("b1 :1", ANY_BYTE, 2);
        bad("b1: 1", ANY_BYTE, 3);
        bad("b1 2:1", ANY_BYTE, 2);
        bad("b1:1 2", ANY_BYTE, 5);
        bad("b ", ANY_BYTE, 1);
        bad("b1 ", ANY_BYTE, 2);
        bad("b1: ", ANY_BYTE, 3);
    }

    /** "A letter, b for a break, g for a grade, f for a flow": no other one, and no great one. */
    private static void letters() {
        for (char c = 33; c <= 126; c++) {
            if (c == 'b' || c == 'g' || c == 'f') {
                BrokeLoop loop = good(c + "7:2", 1);
                Checks.due("kind of " + c, loop.entry(0, 1), c == 'b' ? 0 : c == 'g' ? 1 : 2);
            } else {
                bad(c + "7:2", ANY_BYTE, 0);
                bad("b1:1 " + c + "7:2", ANY_BYTE, 5);
            }
        }
    }

    /** Each byte but a digit, where a digit is due; each but a digit or the sign, where one of them is due. */
    private static void digits() {
        for (char c = 32; c <= 126; c++) {
            boolean digit = c >= '0' && c <= '9';
            if (!digit) {
                bad("f" + c + "1:1", ANY_BYTE, 1);
                bad("f1:" + c + "1", ANY_BYTE, 3);
            } else {
                good("f1" + c + ":1", 1);
                good("f1:1" + c, 1);
            }
            if (!digit && c != ':') {
                bad("f1" + c + "1", ANY_BYTE, 2);
            }
            if (!digit && c != ' ') {
                bad("f1:1" + c, ANY_BYTE, 4);
            }
        }
    }

    /** "The first number is the time, from 1 to 9999". */
    private static void times() {
        String[] kinds = {"b", "g", "f"};
        for (String kind : kinds) {
            bad(kind + "0:1", RANGE, 1);
            bad(kind + "0000:1", RANGE, 1);
            Checks.due("the least time", good(kind + "1:1", 1).entry(0, 0), 1);
            Checks.due("the next one", good(kind + "2:1", 1).entry(0, 0), 2);
            Checks.due("the greatest but one", good(kind + "9998:1", 1).entry(0, 0), 9998);
            Checks.due("the greatest time", good(kind + "9999:1", 1).entry(0, 0), 9999);
            bad(kind + "10000:1", ANY_BYTE, 5);
        }
    }

    /** "The length (1 to 50)". */
    private static void lengths() {
        bad("b1:0", RANGE, 3);
        Checks.due("the least length", good("b1:1", 1).entry(0, 2), 1);
        Checks.due("the greatest but one", good("b1:49", 1).entry(0, 2), 49);
        Checks.due("the greatest length", good("b1:50", 1).entry(0, 2), 50);
        bad("b1:51", RANGE, 3);
        bad("b1:9999", RANGE, 3);
    }

    /** "The grade (0 to 3)". */
    private static void gradesTold() {
        Checks.due("the least grade", good("g1:0", 1).entry(0, 2), 0);
        Checks.due("the greatest grade", good("g1:3", 1).entry(0, 2), 3);
        bad("g1:4", RANGE, 3);
        bad("g1:9999", RANGE, 3);
    }

    /** "The flow (0 to 2000)". */
    private static void flows() {
        Checks.due("the least flow", good("f1:0", 1).entry(0, 2), 0);
        Checks.due("the greatest but one", good("f1:1999", 1).entry(0, 2), 1999);
        Checks.due("the greatest flow", good("f1:2000", 1).entry(0, 2), 2000);
        bad("f1:2001", RANGE, 3);
        bad("f1:9999", RANGE, 3);
    }

    /** "A number has 1 to 4 digits." */
    private static void fourDigits() {
        BrokeLoop loop = good("b0001:0050 f0009:0000 g0010:0003 f12:34 f123:123", 5);
        int[][] due = {{1, 50}, {9, 0}, {10, 3}, {12, 34}, {123, 123}};
        for (int entry = 0; entry < due.length; entry++) {
            Checks.due("time", loop.entry(entry, 0), due[entry][0]);
            Checks.due("number", loop.entry(entry, 2), due[entry][1]);
        }
    }

    /** "1 a byte that cannot stand at its place (also a fifth digit, whatever the four before it are". */
    private static void fifthDigit() {
        bad("b00001:1", ANY_BYTE, 5);
        bad("b00000:1", ANY_BYTE, 5);
        bad("b00000", ANY_BYTE, 5);
        bad("b99999:1", ANY_BYTE, 5);
        bad("b12345678:1", ANY_BYTE, 5);
        bad("b1:00001", ANY_BYTE, 7);
        bad("b1:00000", ANY_BYTE, 7);
        bad("b1:99999", ANY_BYTE, 7);
        bad("g1:00003", ANY_BYTE, 7);
        bad("f1:20010 ", ANY_BYTE, 7);
        bad("b1:1 f12:00000", ANY_BYTE, 13);
        // Four digits that are out of their range are so when no fifth one follows.
        bad("b0000:1", RANGE, 1);
        bad("b1:0000", RANGE, 3);
        bad("f1:2001 ", RANGE, 3);
    }

    /** "And a second entry without a blank before it)". */
    private static void secondEntryWithoutABlank() {
        bad("b1:1g2:2", ANY_BYTE, 4);
        bad("b1:50b", ANY_BYTE, 5);
        bad("f1:2000f2:1", ANY_BYTE, 7);
        bad("b1:1 g2:2f3:3", ANY_BYTE, 9);
        bad("b1:1 ".repeat(19) + "b1:1b2:2", ANY_BYTE, 99);
    }

    /**
     * "2 a number that is out of its range (the place of its first digit; found at the byte behind it, ahead of what
     * that byte is".
     */
    private static void rangeGoesAheadOfTheNextByte() {
        for (char c = 32; c <= 126; c++) {
            if (c < '0' || c > '9') {
                bad("b0" + c, RANGE, 1);
                bad("  b000" + c + "1", RANGE, 3);
                bad("b1:51" + c, RANGE, 3);
                bad("g12:4" + c, RANGE, 4);
            }
        }
    }

    /** "[..] or at the end)". */
    private static void rangeAtTheEnd() {
        bad("b0", RANGE, 1);
        bad("b00", RANGE, 1);
        bad("b0000", RANGE, 1);
        bad("b1:0", RANGE, 3);
        bad("b1:0000", RANGE, 3);
        bad("b12:51", RANGE, 4);
        bad("f1234:2001", RANGE, 6);
    }

    /** "3 the end of the text within an entry (the length of the text)". */
    private static void endWithinAnEntry() {
        bad("b", END, 1);
        bad("b1", END, 2);
        bad("b9999", END, 5);
        bad("b1:", END, 3);
        bad("   g", END, 4);
        bad("b1:1 f", END, 6);
        bad("b1:1 f20", END, 8);
        bad("b1:1 f20:", END, 9);
        bad("b1:1 ".repeat(19) + "b", END, 96);
    }

    /** "4 a 21st entry (the place of its letter)." */
    private static void twentyFirstEntry() {
        String twenty = "b1:1 ".repeat(20);
        good(twenty, 20);
        bad(twenty + "b1:1", MANY, 100);
        bad(twenty + "g", MANY, 100);
        bad(twenty + "f0:9999", MANY, 100);
        bad(twenty + "   bx", MANY, 103);
        bad("  " + twenty + "b1:1", MANY, 102);
        bad(twenty + "x", ANY_BYTE, 100);
        bad(twenty + "1", ANY_BYTE, 100);
        bad(twenty + ":", ANY_BYTE, 100);
        bad("b1:1 ".repeat(19) + "b1:1g1:1", ANY_BYTE, 99);
        bad("b1:1 ".repeat(19) + "b1:0 g1:1", RANGE, 98);
    }

    /** "The text is read from left to right, and the first fault counts." */
    private static void firstFaultCounts() {
        bad("b0:1 x b", RANGE, 1);
        bad("x b0:1 b", ANY_BYTE, 0);
        bad("b1:99 b0:1", RANGE, 3);
        bad("b1:1 b1;1 b0:1", ANY_BYTE, 7);
        bad("b1:1 b0:51", RANGE, 6);
        bad("x" + "b1:1 ".repeat(21), ANY_BYTE, 0);
    }

    /** "NONE if there was no such call". */
    private static void noFault() {
        BrokeLoop loop = new BrokeLoop();
        Checks.due("fault(0) of a new object", loop.fault(0), NONE);
        Checks.due("fault(1) of a new object", loop.fault(1), NONE);
        Checks.plan(loop, "b1:1");
        Checks.write(loop, "b0");
        loop.run(201);
        loop.undo();
        loop.undo();
        loop.back(1);
        Checks.due("fault(0) without a call of plan() that found one", loop.fault(0), NONE);
        Checks.due("fault(1) without a call of plan() that found one", loop.fault(1), NONE);
        loop.plan();
        Checks.due("fault(0)", loop.fault(0), RANGE);
        Checks.due("fault(1)", loop.fault(1), 1);
    }

    /** "The fault that the latest call of plan() with the result STATE has found", whatever came behind it. */
    private static void latestFault() {
        BrokeLoop loop = new BrokeLoop();
        Checks.write(loop, "x");
        loop.plan();
        Checks.due("kind", loop.fault(0), ANY_BYTE);
        Checks.due("a place of 0", loop.fault(1), 0);
        Checks.plan(loop, "  b1:1");
        Checks.due("kind behind a plan() without a fault", loop.fault(0), ANY_BYTE);
        Checks.due("place behind a plan() without a fault", loop.fault(1), 0);
        Checks.write(loop, "b1:1 b");
        loop.plan();
        loop.wipe();
        loop.keep(0);
        loop.begin();
        loop.undo();
        loop.back(0);
        Checks.due("kind behind wipe(), begin(), undo() and back()", loop.fault(0), END);
        Checks.due("place behind wipe(), begin(), undo() and back()", loop.fault(1), 6);
    }

    /** "BAD if what is out of range": 0 and 1. */
    private static void whichFaultNumbers() {
        int[] wrong = {-1, 2, Integer.MIN_VALUE, Integer.MAX_VALUE};
        BrokeLoop loop = new BrokeLoop();
        for (int what : wrong) {
            Checks.due("fault(" + what + ") without a fault", loop.fault(what), BAD);
        }
        Checks.write(loop, "b");
        loop.plan();
        for (int what : wrong) {
            Checks.due("fault(" + what + ") with a fault", loop.fault(what), BAD);
        }
    }
}
