/** The broke loop of a paper mill, stepped tick by tick. What each method promises stands in DOC.md. */
public final class BrokeLoop {
    public static final int BAD = -1, STATE = -2, FULL = -3, NONE = -9;

    private static final int CHESTS = 4, GRADES = 4, SETTINGS = 9;

    private static final int INFLOW = 0, INFLOW_WATER = 1, FLOW = 2, LIMIT = 3, TARGET = 4,
            DELAY = 5, GAIN = 6, SPRAY = 7, OFF_GRADE_TIME = 8;
    private static final int[] LEAST_VALUE = {0, 0, 0, 0, 1, 0, 0, 0, 0};
    private static final int[] MOST_VALUE = {200, 5000, 2000, 1000, 100, 8, 50, 2000, 20};
    private static final int[] FIRST_VALUE = {40, 960, 500, 300, 30, 3, 10, 500, 5};

    private static final int FIRST_FIBRE = 400, FIRST_WATER = 9600;
    private static final int MOST_BREAK = 50, MOST_FLOW = 2000, MOST_VALVE = 3000;
    private static final int MOST_FIBRE = 5000, MOST_WATER = 50000, MOST_DRAINED = 50000;
    private static final int MOST_TICKS = 200, MOST_TICKS_AHEAD = 300, MOST_TICKS_TRIED = 100;
    private static final int MOST_LIMIT = 1000, LIMIT_STEP = 50;

    private static final int KIND_BREAK = 0, KIND_GRADE = 1, KIND_FLOW = 2;
    private static final int MOST_ENTRIES = 20, MOST_TIME = 9999, MOST_DIGITS = 4;

    private static final int MOST_BYTES = 120, LEAST_CODE = 32, MOST_CODE = 126;
    private static final int NO_FAULT = 0, WRONG_BYTE = 1, WRONG_NUMBER = 2, TOO_SHORT = 3, TOO_MANY = 4;

    private static final int MOST_PAST = 8;

    private final Loop loop = new Loop();
    private final Loop trial = new Loop();
    private final History history = new History();
    private final Image firstImage = new Image();
    private final Image secondImage = new Image();

    private final int[] text = new int[MOST_BYTES];
    private int textLength = 0;
    private final Reader reader = new Reader();
    private int faultKind = NO_FAULT;
    private int faultPlace = 0;

    public BrokeLoop() {
    }

    // ---- changes

    public int begin() {
        history.remember(loop);
        int was = loop.clock;
        loop.startAnew();
        return was;
    }

    public int set(int setting, int value) {
        if (setting < 0 || setting >= SETTINGS) {
            return BAD;
        }
        if (value < LEAST_VALUE[setting] || value > MOST_VALUE[setting]) {
            return BAD;
        }
        history.remember(loop);
        int was = loop.settings[setting];
        loop.settings[setting] = value;
        return was;
    }

    public int tear(int ticks) {
        if (ticks < 1 || ticks > MOST_BREAK) {
            return BAD;
        }
        history.remember(loop);
        loop.breakSheet(ticks);
        return loop.broken;
    }

    public int change(int grade) {
        if (grade < 0 || grade >= GRADES) {
            return BAD;
        }
        history.remember(loop);
        int was = loop.grade;
        loop.turnTo(grade);
        return was;
    }

    public int fill(int chest, int fibre, int water) {
        if (chest < 0 || chest >= CHESTS || fibre < 0 || fibre > MOST_FIBRE || water < 0 || water > MOST_WATER) {
            return BAD;
        }
        history.remember(loop);
        loop.account.given += fibre;
        return loop.pour(loop.chestAt(chest), fibre, water);
    }

    public int drain(int chest, int mass) {
        if (chest < 0 || chest >= CHESTS || mass < 1 || mass > MOST_DRAINED) {
            return BAD;
        }
        history.remember(loop);
        Chest from = loop.chestAt(chest);
        int fibre = from.takeOut(from.there(mass));
        loop.account.drained += fibre;
        return fibre;
    }

    public int plan() {
        reader.read(text, textLength);
        if (reader.kind != NO_FAULT) {
            faultKind = reader.kind;
            faultPlace = reader.place;
            return STATE;
        }
        history.remember(loop);
        loop.schedule.copyFrom(reader.found);
        return loop.schedule.size;
    }

    public int run(int n) {
        if (n < 1 || n > MOST_TICKS) {
            return BAD;
        }
        history.remember(loop);
        return loop.doTicks(n);
    }

    public int undo() {
        if (history.size <= 0) {
            return STATE;
        }
        history.restore(loop);
        return history.size;
    }

    // ---- the text

    public int write(int code) {
        if (code < LEAST_CODE || code > MOST_CODE) {
            return BAD;
        }
        if (textLength < 0 || textLength >= MOST_BYTES) {
            return FULL;
        }
        text[textLength] = code;
        textLength++;
        return textLength;
    }

    public int wipe() {
        int was = textLength;
        textLength = 0;
        return was;
    }

    public int fault(int what) {
        if (what < 0 || what > 1) {
            return BAD;
        }
        if (faultKind == NO_FAULT) {
            return NONE;
        }
        return what == 0 ? faultKind : faultPlace;
    }

    // ---- what is told

    public int told(int what) {
        switch (what) {
            case 0: return loop.clock;
            case 1: return loop.grade;
            case 2: return loop.broken;
            case 3: return loop.offGrade;
            case 4: return loop.controller.valve;
            case 5: return loop.brokeGrade;
            case 6: return loop.reason;
            case 7: return loop.controller.latest();
            case 8: return loop.schedule.size;
            case 9: return loop.schedule.countAfter(loop.clock);
            case 10: return loop.lostTicks;
            case 11: return textLength;
            case 12: return history.size;
            default: return BAD;
        }
    }

    public int setting(int setting) {
        if (setting < 0 || setting >= SETTINGS) {
            return BAD;
        }
        return loop.settings[setting];
    }

    public int chest(int chest, int what) {
        if (chest < 0 || chest >= CHESTS) {
            return BAD;
        }
        Chest asked = loop.chestAt(chest);
        switch (what) {
            case 0: return asked.fibre;
            case 1: return asked.water;
            case 2: return asked.consistency();
            case 3: return asked.missing();
            case 4: return asked.greatest;
            default: return BAD;
        }
    }

    public int account(int what) {
        switch (what) {
            case 0: return loop.account.inflow;
            case 1: return loop.account.given;
            case 2: return loop.account.paperOfAll();
            case 3: return loop.account.spilled;
            case 4: return loop.account.drained;
            case 5: return loop.fibreNow();
            case 6: return FIRST_FIBRE;
            case 7: return loop.account.broke;
            default: return BAD;
        }
    }

    public int paper(int grade) {
        if (grade < 0 || grade >= GRADES) {
            return BAD;
        }
        return loop.account.paper[grade];
    }

    public int entry(int entry, int what) {
        if (entry < 0 || entry >= loop.schedule.size || entry >= MOST_ENTRIES) {
            return BAD;
        }
        switch (what) {
            case 0: return loop.schedule.times[entry];
            case 1: return loop.schedule.kinds[entry];
            case 2: return loop.schedule.numbers[entry];
            default: return BAD;
        }
    }

    public float paperShare() {
        int made = loop.account.paperOfAll();
        int all = made + loop.account.broke;
        if (all == 0) {
            return 0.0f;
        }
        return (float) made / (float) all;
    }

    // ---- what would be: everything happens in a copy

    public int later(int n, int what) {
        if (n < 1 || n > MOST_TICKS_AHEAD || what < 0 || what > 3) {
            return BAD;
        }
        trial.copyFrom(loop);
        int made = trial.doTicks(n);
        switch (what) {
            case 0: return made;
            case 1: return trial.account.spilled - loop.account.spilled;
            case 2: return trial.machine.consistency();
            default: return trial.broke.fibre;
        }
    }

    public int overflow() {
        trial.copyFrom(loop);
        // So long a break outlasts every tick that is looked at, whatever breaks the schedule has besides.
        trial.breakSheet(MOST_TICKS_AHEAD);
        for (int ticks = 1; ticks <= MOST_TICKS_AHEAD; ticks++) {
            if (trial.tick()) {
                return ticks;
            }
        }
        return NONE;
    }

    public int bestLimit(int n) {
        if (n < 1 || n > MOST_TICKS_TRIED) {
            return BAD;
        }
        int best = 0;
        int most = -1;
        for (int limit = 0; limit <= MOST_LIMIT; limit += LIMIT_STEP) {
            trial.copyFrom(loop);
            trial.settings[LIMIT] = limit;
            int made = trial.doTicks(n);
            if (made > most) {
                most = made;
                best = limit;
            }
        }
        return best;
    }

    // ---- images

    public int keep(int i) {
        if (i < 0 || i > 1) {
            return BAD;
        }
        Image image = imageAt(i);
        image.state.copyFrom(loop);
        image.kept = true;
        return loop.clock;
    }

    public int back(int i) {
        if (i < 0 || i > 1) {
            return BAD;
        }
        Image image = imageAt(i);
        if (!image.kept) {
            return STATE;
        }
        history.remember(loop);
        loop.copyFrom(image.state);
        return loop.clock;
    }

    private Image imageAt(int i) {
        return i == 0 ? firstImage : secondImage;
    }

    private static void copyNumbers(int[] from, int[] to) {
        for (int i = 0; i < from.length && i < to.length; i++) {
            to[i] = from[i];
        }
    }

    /** Stock: fibre and water in a room that bounds their sum. */
    private static final class Chest {
        final int room;
        int fibre = 0;
        int water = 0;
        int greatest = 0;

        Chest(int room) {
            this.room = room;
        }

        void startWith(int firstFibre, int firstWater) {
            fibre = firstFibre;
            water = firstWater;
            greatest = 0;
        }

        void copyFrom(Chest other) {
            fibre = other.fibre;
            water = other.water;
            greatest = other.greatest;
        }

        int missing() {
            return room - fibre - water;
        }

        int consistency() {
            int sum = fibre + water;
            return sum <= 0 ? 0 : fibre * 1000 / sum;
        }

        /** As much of a mass as the chest holds. */
        int there(int mass) {
            return Math.min(mass, fibre + water);
        }

        /** Takes a mass that is there, and returns its fibre. */
        int takeOut(int mass) {
            int sum = fibre + water;
            if (sum <= 0) {
                return 0;
            }
            // A surplus of 55000 and a fibre of 35000 come near the end of the ints.
            int taken = (int) ((long) mass * fibre / sum);
            fibre -= taken;
            water -= mass - taken;
            return taken;
        }

        /** Puts fibre and water in, and returns the fibre that is spilled. */
        int putIn(int moreFibre, int moreWater) {
            fibre += moreFibre;
            water += moreWater;
            int surplus = fibre + water - room;
            return surplus > 0 ? takeOut(surplus) : 0;
        }

        void noteSum() {
            greatest = Math.max(greatest, fibre + water);
        }
    }

    /** The fibre that came and went since the loop was begun. */
    private static final class Account {
        int inflow = 0;
        int given = 0;
        int spilled = 0;
        int drained = 0;
        int broke = 0;
        final int[] paper = new int[GRADES];

        void clear() {
            inflow = 0;
            given = 0;
            spilled = 0;
            drained = 0;
            broke = 0;
            for (int i = 0; i < paper.length; i++) {
                paper[i] = 0;
            }
        }

        void copyFrom(Account other) {
            inflow = other.inflow;
            given = other.given;
            spilled = other.spilled;
            drained = other.drained;
            broke = other.broke;
            copyNumbers(other.paper, paper);
        }

        int paperOfAll() {
            int sum = 0;
            for (int i = 0; i < paper.length; i++) {
                sum += paper[i];
            }
            return sum;
        }
    }

    /** The valve, and the measurements that its control may still look at. */
    private static final class Controller {
        int valve = 0;
        /** The latest one first; no delay reaches behind the last place. */
        final int[] measured = new int[9];
        int size = 0;

        void clear() {
            valve = 0;
            size = 0;
        }

        void copyFrom(Controller other) {
            valve = other.valve;
            size = other.size;
            copyNumbers(other.measured, measured);
        }

        int latest() {
            return size <= 0 ? NONE : measured[0];
        }

        void measure(int consistency) {
            for (int i = measured.length - 1; i > 0; i--) {
                measured[i] = measured[i - 1];
            }
            measured[0] = consistency;
            size = Math.min(size + 1, measured.length);
        }

        void control(int delay, int target, int gain) {
            if (delay < 0 || delay >= size || delay >= measured.length) {
                return;
            }
            int moved = valve + (measured[delay] - target) * gain;
            valve = Math.max(0, Math.min(moved, MOST_VALVE));
        }
    }

    /** Entries in ascending order of their times. */
    private static final class Schedule {
        final int[] times = new int[MOST_ENTRIES];
        final int[] kinds = new int[MOST_ENTRIES];
        final int[] numbers = new int[MOST_ENTRIES];
        int size = 0;

        void copyFrom(Schedule other) {
            size = other.size;
            copyNumbers(other.times, times);
            copyNumbers(other.kinds, kinds);
            copyNumbers(other.numbers, numbers);
        }

        /** Puts an entry behind all whose time is not greater, so that equal times keep the order they were told in. */
        void insert(int time, int kind, int number) {
            if (size < 0 || size >= MOST_ENTRIES) {
                return;
            }
            int place = size;
            while (place > 0 && times[place - 1] > time) {
                times[place] = times[place - 1];
                kinds[place] = kinds[place - 1];
                numbers[place] = numbers[place - 1];
                place--;
            }
            times[place] = time;
            kinds[place] = kind;
            numbers[place] = number;
            size++;
        }

        int countAfter(int clock) {
            int count = 0;
            for (int i = 0; i < size && i < MOST_ENTRIES; i++) {
                if (times[i] > clock) {
                    count++;
                }
            }
            return count;
        }
    }

    /** Reads a text as a schedule, up to its first fault. */
    private static final class Reader {
        final Schedule found = new Schedule();
        int kind = NO_FAULT;
        int place = 0;
        private int at = 0;

        void read(int[] text, int length) {
            found.size = 0;
            kind = NO_FAULT;
            place = 0;
            at = 0;
            skipBlanks(text, length);
            // The entry beyond the most that may be is read too: it is a fault.
            for (int i = 0; i <= MOST_ENTRIES && at < length && kind == NO_FAULT; i++) {
                readEntry(text, length);
                skipBlanks(text, length);
            }
        }

        private void skipBlanks(int[] text, int length) {
            while (at < length && codeAt(text, length) == ' ') {
                at++;
            }
        }

        private void readEntry(int[] text, int length) {
            int entryKind = kindOf(codeAt(text, length));
            if (entryKind == NONE) {
                note(WRONG_BYTE, at);
                return;
            }
            if (found.size >= MOST_ENTRIES) {
                note(TOO_MANY, at);
                return;
            }
            at++;
            int time = readNumber(text, length, 1, MOST_TIME);
            if (kind == NO_FAULT && codeAt(text, length) != ':') {
                noteWrongByte(length);
            }
            if (kind != NO_FAULT) {
                return;
            }
            at++;
            int number = readNumber(text, length, leastOf(entryKind), mostOf(entryKind));
            if (kind == NO_FAULT && at < length && codeAt(text, length) != ' ') {
                note(WRONG_BYTE, at);
            }
            if (kind == NO_FAULT) {
                found.insert(time, entryKind, number);
            }
        }

        private int readNumber(int[] text, int length, int least, int most) {
            int first = at;
            int value = 0;
            while (at < first + MOST_DIGITS && isDigit(codeAt(text, length))) {
                value = value * 10 + codeAt(text, length) - '0';
                at++;
            }
            if (at == first || isDigit(codeAt(text, length))) {
                noteWrongByte(length);
            } else if (value < least || value > most) {
                note(WRONG_NUMBER, first);
            }
            return value;
        }

        /** The byte that comes next, NONE behind the end. */
        private int codeAt(int[] text, int length) {
            return at >= 0 && at < length && at < text.length ? text[at] : NONE;
        }

        private void noteWrongByte(int length) {
            note(at < length ? WRONG_BYTE : TOO_SHORT, at);
        }

        private void note(int faultKind, int faultPlace) {
            kind = faultKind;
            place = faultPlace;
        }

        private static boolean isDigit(int code) {
            return code >= '0' && code <= '9';
        }

        private static int kindOf(int letter) {
            switch (letter) {
                case 'b': return KIND_BREAK;
                case 'g': return KIND_GRADE;
                case 'f': return KIND_FLOW;
                default: return NONE;
            }
        }

        private static int leastOf(int entryKind) {
            return entryKind == KIND_BREAK ? 1 : 0;
        }

        private static int mostOf(int entryKind) {
            switch (entryKind) {
                case KIND_BREAK: return MOST_BREAK;
                case KIND_GRADE: return GRADES - 1;
                default: return MOST_FLOW;
            }
        }
    }

    /** All that a change may change, and all that undo and the images bring back. */
    private static final class Loop {
        int clock = 0;
        int grade = 0;
        int broken = 0;
        int offGrade = 0;
        int brokeGrade = 0;
        int reason = NONE;
        int lostTicks = 0;
        final Chest pulp = new Chest(20000);
        final Chest broke = new Chest(30000);
        final Chest mixing = new Chest(10000);
        final Chest machine = new Chest(10000);
        final Account account = new Account();
        final Controller controller = new Controller();
        final Schedule schedule = new Schedule();
        final int[] settings = new int[SETTINGS];

        Loop() {
            copyNumbers(FIRST_VALUE, settings);
            startAnew();
        }

        /** Settings and schedule stay. */
        void startAnew() {
            clock = 0;
            grade = 0;
            broken = 0;
            offGrade = 0;
            brokeGrade = 0;
            reason = NONE;
            lostTicks = 0;
            pulp.startWith(FIRST_FIBRE, FIRST_WATER);
            broke.startWith(0, 0);
            mixing.startWith(0, 0);
            machine.startWith(0, 0);
            account.clear();
            controller.clear();
        }

        void copyFrom(Loop other) {
            clock = other.clock;
            grade = other.grade;
            broken = other.broken;
            offGrade = other.offGrade;
            brokeGrade = other.brokeGrade;
            reason = other.reason;
            lostTicks = other.lostTicks;
            pulp.copyFrom(other.pulp);
            broke.copyFrom(other.broke);
            mixing.copyFrom(other.mixing);
            machine.copyFrom(other.machine);
            account.copyFrom(other.account);
            controller.copyFrom(other.controller);
            schedule.copyFrom(other.schedule);
            copyNumbers(other.settings, settings);
        }

        Chest chestAt(int number) {
            switch (number) {
                case 0: return pulp;
                case 1: return broke;
                case 2: return mixing;
                default: return machine;
            }
        }

        int fibreNow() {
            return pulp.fibre + broke.fibre + mixing.fibre + machine.fibre;
        }

        void breakSheet(int ticks) {
            broken = Math.max(broken, ticks);
        }

        void turnTo(int newGrade) {
            if (newGrade != grade) {
                grade = newGrade;
                offGrade = settings[OFF_GRADE_TIME];
            }
        }

        /** Fills a chest, and returns the fibre that is spilled. */
        int pour(Chest chest, int fibre, int water) {
            int spilled = chest.putIn(fibre, water);
            account.spilled += spilled;
            return spilled;
        }

        /** Does ticks, and returns the paper that is made in them. */
        int doTicks(int ticks) {
            int before = account.paperOfAll();
            for (int i = 0; i < ticks; i++) {
                tick();
            }
            return account.paperOfAll() - before;
        }

        /** Returns whether the broke chest spilled what came from the sheet. */
        boolean tick() {
            clock++;
            carryOutSchedule();
            account.inflow += settings[INFLOW];
            pour(pulp, settings[INFLOW], settings[INFLOW_WATER]);
            feedMixing();
            feedMachine();
            controller.measure(machine.consistency());
            controller.control(settings[DELAY], settings[TARGET], settings[GAIN]);
            boolean spilled = makeSheet();
            broken = Math.max(0, broken - 1);
            offGrade = Math.max(0, offGrade - 1);
            noteSums();
            return spilled;
        }

        private void carryOutSchedule() {
            for (int i = 0; i < schedule.size && i < MOST_ENTRIES; i++) {
                if (schedule.times[i] == clock) {
                    carryOut(schedule.kinds[i], schedule.numbers[i]);
                }
            }
        }

        private void carryOut(int kind, int number) {
            switch (kind) {
                case KIND_BREAK:
                    breakSheet(number);
                    break;
                case KIND_GRADE:
                    turnTo(number);
                    break;
                default:
                    settings[FLOW] = number;
                    break;
            }
        }

        private void feedMixing() {
            int demand = Math.min(settings[FLOW], mixing.missing());
            int wanted = brokeGrade == grade ? demand * settings[LIMIT] / 1000 : 0;
            int ofBroke = broke.there(wanted);
            int ofPulp = pulp.there(demand - ofBroke);
            int fibre = broke.takeOut(ofBroke) + pulp.takeOut(ofPulp);
            pour(mixing, fibre, ofBroke + ofPulp - fibre);
            reason = reasonOf(demand, wanted, ofBroke);
        }

        private int reasonOf(int demand, int wanted, int ofBroke) {
            if (demand == 0) {
                return 0;
            }
            if (brokeGrade != grade) {
                return 3;
            }
            if (settings[LIMIT] == 0) {
                return 1;
            }
            return ofBroke < wanted ? 2 : 0;
        }

        private void feedMachine() {
            int taken = mixing.there(settings[FLOW]);
            int fibre = mixing.takeOut(taken);
            int thinning = controller.valve * taken / 1000;
            pour(machine, fibre, taken - fibre + thinning);
        }

        private boolean makeSheet() {
            int fibre = machine.takeOut(machine.there(settings[FLOW]));
            if (broken == 0 && offGrade == 0) {
                countPaper(fibre);
                return false;
            }
            lostTicks++;
            account.broke += fibre;
            brokeGrade = grade;
            boolean spills = fibre + settings[SPRAY] > broke.missing();
            pour(broke, fibre, settings[SPRAY]);
            return spills;
        }

        private void countPaper(int fibre) {
            if (grade >= 0 && grade < account.paper.length) {
                account.paper[grade] += fibre;
            }
        }

        private void noteSums() {
            pulp.noteSum();
            broke.noteSum();
            mixing.noteSum();
            machine.noteSum();
        }
    }

    /** The states before the latest changes, in a ring whose objects are used again. */
    private static final class History {
        private final Loop[] states = new Loop[MOST_PAST];
        private int newest = 0;
        int size = 0;

        History() {
            for (int i = 0; i < states.length; i++) {
                states[i] = new Loop();
            }
        }

        void remember(Loop now) {
            newest = newest < 0 || newest >= states.length - 1 ? 0 : newest + 1;
            Loop slot = states[newest];
            if (slot != null) {
                slot.copyFrom(now);
                size = Math.min(size + 1, states.length);
            }
        }

        void restore(Loop now) {
            if (size <= 0 || newest < 0 || newest >= states.length) {
                return;
            }
            Loop slot = states[newest];
            if (slot != null) {
                now.copyFrom(slot);
            }
            newest = newest == 0 ? states.length - 1 : newest - 1;
            size--;
        }
    }

    /** A state that is kept by hand. */
    private static final class Image {
        final Loop state = new Loop();
        boolean kept = false;
    }
}
