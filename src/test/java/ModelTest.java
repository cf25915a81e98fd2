/** Fixed runs of calls on the class and on the model, answer by answer; no object gets more than 512 calls. */
public final class ModelTest {
    private static final int MOST_CALLS = 512;
    private static final int[] LEAST = {0, 0, 0, 0, 1, 0, 0, 0, 0};
    private static final int[] MOST = {200, 5000, 2000, 1000, 100, 8, 50, 2000, 20};
    private static final int[] MASSES = {0, 1, 2, 499, 500, 5000, 9999, 10000, 10001, 20000, 30000, 49999, 50000};
    private static final int[] EDGES = {Integer.MIN_VALUE, -1, 0, 1, 2, 3, 4, 5, 8, 9, 12, 13, 20, 31, 32, 50, 51, 100,
            101, 126, 127, 200, 201, 300, 301, 1000, 1001, 2000, 2001, 5000, 5001, 50000, 50001, Integer.MAX_VALUE};
    private static final String LETTERS = "bgf";
    private static final String SMALL = "bf0159: ";

    private long seed;
    private BrokeLoop loop = new BrokeLoop();
    private Model model = new Model();
    private int calls = 0;

    private ModelTest(long seed) {
        this.seed = seed;
    }

    public static void main(String[] args) {
        for (int round = 1; round <= 400; round++) {
            new ModelTest(round).changesAndAnswers();
            new ModelTest(-round).anyCalls();
        }
        for (int round = 1; round <= 60; round++) {
            new ModelTest(round).manyTexts();
        }
        new ModelTest(1).allShortTexts();
        new ModelTest(1).allBytesAtAllPlaces();
        Checks.end("ModelTest");
    }

    private int next(int bound) {
        seed = seed * 6364136223846793005L + 1442695040888963407L;
        return (int) ((seed >>> 33) % bound);
    }

    private void same(String call, double got, double want) {
        calls++;
        Checks.due("call " + calls + ", " + call, got, want);
    }

    private boolean hasCalls(int more) {
        return calls + more <= MOST_CALLS;
    }

    private void changesAndAnswers() {
        if (next(3) == 0) {
            roughSettings();
        }
        while (hasCalls(130)) {
            someChange();
            someAnswers();
        }
        allAnswers();
    }

    private void roughSettings() {
        for (int setting = 0; setting < 9; setting++) {
            set(setting, next(2) == 0 ? MOST[setting] : LEAST[setting] + next(MOST[setting] - LEAST[setting] + 1));
        }
    }

    private void someChange() {
        switch (next(14)) {
            case 0: case 1: case 2:
                int setting = next(9);
                set(setting, LEAST[setting] + next(MOST[setting] - LEAST[setting] + 1));
                break;
            case 3: tear(1 + next(next(2) == 0 ? 5 : 50)); break;
            case 4: change(next(4)); break;
            case 5: fill(next(4), next(5001), MASSES[next(MASSES.length)]); break;
            case 6: drain(next(4), Math.max(1, MASSES[next(MASSES.length)])); break;
            case 7: text(someSchedule(1 + next(4))); break;
            case 8: same("undo()", loop.undo(), model.undo()); break;
            case 9: keep(next(2)); break;
            case 10: back(next(2)); break;
            case 11:
                if (next(4) == 0) {
                    same("begin()", loop.begin(), model.begin());
                }
                break;
            default: run(1 + next(next(4) == 0 ? 200 : 12)); break;
        }
    }

    private String someSchedule(int entries) {
        StringBuilder told = new StringBuilder();
        int[] most = {50, 4, 2001};
        for (int i = 0; i < entries; i++) {
            int kind = next(3);
            int number = kind == 0 ? 1 + next(most[0]) : next(most[kind]);
            int time = 1 + next(next(2) == 0 ? 6 : 300) + (int) model.told(0) / 2;
            told.append(LETTERS.charAt(kind)).append(time).append(':').append(number).append(' ');
        }
        return told.toString();
    }

    private void text(String told) {
        same("wipe()", loop.wipe(), model.wipe());
        for (int i = 0; i < told.length() && hasCalls(1); i++) {
            write(told.charAt(i));
        }
        plan(told);
    }

    private void plan(String told) {
        if (hasCalls(3)) {
            same("plan() of '" + told + "'", loop.plan(), model.plan());
            same("fault(0) of '" + told + "'", loop.fault(0), model.fault(0));
            same("fault(1) of '" + told + "'", loop.fault(1), model.fault(1));
        }
    }

    private void someAnswers() {
        for (int i = 0; i < 3; i++) {
            told(next(13));
            chest(next(4), next(5));
            account(next(8));
        }
        switch (next(6)) {
            case 0: later(1 + next(300), next(4)); break;
            case 1: same("overflow()", loop.overflow(), model.overflow()); break;
            case 2: bestLimit(1 + next(100)); break;
            case 3: same("paperShare()", loop.paperShare(), model.paperShare()); break;
            case 4: paper(next(4)); break;
            default: entry(next(5), next(3)); break;
        }
    }

    private void allAnswers() {
        for (int what = 0; what < 13; what++) {
            told(what);
        }
        for (int i = 0; i < 4; i++) {
            for (int what = 0; what < 5; what++) {
                chest(i, what);
            }
            paper(i);
            later(1 + 9 * i, i);
        }
        for (int what = 0; what < 9; what++) {
            account(what);
            setting(what);
        }
        for (int entry = 0; entry < 4; entry++) {
            for (int what = 0; what < 3; what++) {
                entry(entry, what);
            }
        }
        same("paperShare()", loop.paperShare(), model.paperShare());
        same("overflow()", loop.overflow(), model.overflow());
    }

    /** As many changes as one object may get: the history and the measurements wrap around many times. */
    private void anyCalls() {
        while (hasCalls(1)) {
            anyCall(next(24), any(), any());
        }
    }

    private int any() {
        return next(3) == 0 ? EDGES[next(EDGES.length)] : next(next(2) == 0 ? 4 : 130);
    }

    private void anyCall(int which, int a, int b) {
        switch (which) {
            case 0: same("begin()", loop.begin(), model.begin()); break;
            case 1: set(a, b); break;
            case 2: tear(a); break;
            case 3: change(a); break;
            case 4: fill(a, b, any()); break;
            case 5: drain(a, b); break;
            case 6: same("plan()", loop.plan(), model.plan()); break;
            case 7: case 8: run(a); break;
            case 9: same("undo()", loop.undo(), model.undo()); break;
            case 10: write(next(3) == 0 ? a : SMALL.charAt(next(SMALL.length()))); break;
            case 11: same("wipe()", loop.wipe(), model.wipe()); break;
            default: anyQuestion(which, a, b); break;
        }
    }

    private void anyQuestion(int which, int a, int b) {
        switch (which) {
            case 12: same("fault(" + a + ")", loop.fault(a), model.fault(a)); break;
            case 13: told(a); break;
            case 14: setting(a); break;
            case 15: chest(a, b); break;
            case 16: account(a); break;
            case 17: paper(a); break;
            case 18: entry(a, b); break;
            case 19: later(b, a); break;
            case 20: same("overflow()", loop.overflow(), model.overflow()); break;
            case 21: bestLimit(a); break;
            case 22: keep(a); break;
            default: back(a); break;
        }
    }

    private void anew() {
        loop = new BrokeLoop();
        model = new Model();
        calls = 0;
    }

    private void manyTexts() {
        for (int i = 0; i < 40; i++) {
            anew();
            text(someText());
            for (int entry = 0; entry <= 20; entry++) {
                for (int what = 0; what < 3; what++) {
                    entry(entry, what);
                }
            }
            text(someText());
            told(8);
        }
    }

    /** Long texts, most of them with one byte that is put in, taken out or another. */
    private String someText() {
        StringBuilder told = new StringBuilder();
        int entries = 18 + next(4);
        for (int i = 0; i < entries; i++) {
            told.append(" ".repeat(next(20) == 0 ? 2 : 1));
            told.append(LETTERS.charAt(next(3))).append(next(40) == 0 ? 0 : 1 + next(9));
            told.append(':').append(1 + next(3));
        }
        int place = next(told.length());
        char other = (char) (next(2) == 0 ? SMALL.charAt(next(SMALL.length())) : 32 + next(95));
        switch (next(5)) {
            case 0: told.insert(place, other); break;
            case 1: told.deleteCharAt(place); break;
            case 2: told.setCharAt(place, other); break;
            case 3: told.setLength(place); break;
            default: break;
        }
        return told.toString();
    }

    /** Each text of up to five of the bytes that matter, and each of them behind a good beginning. */
    private void allShortTexts() {
        String[] beginnings = {"", "b1:1", "g12", "f9999:", "b1:1 g"};
        for (int length = 0; length <= 5; length++) {
            int all = 1;
            for (int i = 0; i < length; i++) {
                all *= SMALL.length();
            }
            for (int number = 0; number < all; number++) {
                textAnew(beginnings[number % 5] + shortText(number, length));
            }
        }
    }

    private static String shortText(int number, int length) {
        StringBuilder told = new StringBuilder();
        for (int i = 0; i < length; i++) {
            told.append(SMALL.charAt(number % SMALL.length()));
            number /= SMALL.length();
        }
        return told.toString();
    }

    private void textAnew(String told) {
        anew();
        text(told);
        for (int what = 0; what < 3; what++) {
            entry(0, what);
        }
    }

    /** At each place of a good text, each byte that a text may have. */
    private void allBytesAtAllPlaces() {
        String[] good = {" b12:34  g5:1", "f9999:2000 b1:1 ", "g1:0 f10:0", "b1234:0050"};
        for (String whole : good) {
            for (int place = 0; place <= whole.length(); place++) {
                for (char c = 32; c <= 126; c++) {
                    textAnew(whole.substring(0, place) + c);
                    textAnew(whole.substring(0, place) + c + whole.substring(place));
                    textAnew(whole.substring(0, place) + c + whole.substring(Math.min(place + 1, whole.length())));
                }
            }
        }
    }

    private void set(int a, int b) {
        same("set(" + a + ", " + b + ")", loop.set(a, b), model.set(a, b));
    }

    private void tear(int a) {
        same("tear(" + a + ")", loop.tear(a), model.tear(a));
    }

    private void change(int a) {
        same("change(" + a + ")", loop.change(a), model.change(a));
    }

    private void fill(int a, int b, int c) {
        same("fill(" + a + ", " + b + ", " + c + ")", loop.fill(a, b, c), model.fill(a, b, c));
    }

    private void drain(int a, int b) {
        same("drain(" + a + ", " + b + ")", loop.drain(a, b), model.drain(a, b));
    }

    private void run(int a) {
        same("run(" + a + ")", loop.run(a), model.run(a));
    }

    private void write(int a) {
        same("write(" + a + ")", loop.write(a), model.write(a));
    }

    private void told(int a) {
        same("told(" + a + ")", loop.told(a), model.told(a));
    }

    private void setting(int a) {
        same("setting(" + a + ")", loop.setting(a), model.setting(a));
    }

    private void chest(int a, int b) {
        same("chest(" + a + ", " + b + ")", loop.chest(a, b), model.chest(a, b));
    }

    private void account(int a) {
        same("account(" + a + ")", loop.account(a), model.account(a));
    }

    private void paper(int a) {
        same("paper(" + a + ")", loop.paper(a), model.paper(a));
    }

    private void entry(int a, int b) {
        same("entry(" + a + ", " + b + ")", loop.entry(a, b), model.entry(a, b));
    }

    private void later(int a, int b) {
        same("later(" + a + ", " + b + ")", loop.later(a, b), model.later(a, b));
    }

    private void bestLimit(int a) {
        same("bestLimit(" + a + ")", loop.bestLimit(a), model.bestLimit(a));
    }

    private void keep(int a) {
        same("keep(" + a + ")", loop.keep(a), model.keep(a));
    }

    private void back(int a) {
        same("back(" + a + ")", loop.back(a), model.back(a));
    }
}
