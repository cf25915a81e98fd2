import java.util.ArrayDeque;
import java.util.ArrayList;
import java.util.Deque;
import java.util.List;

/** The document once more, sentence by sentence and in longs, to be compared with the class call by call. */
final class Model {
    private static final int BAD = -1, STATE = -2, FULL = -3, NONE = -9;
    private static final int[] ROOM = {20000, 30000, 10000, 10000};
    private static final int[][] RANGE = {{0, 200, 40}, {0, 5000, 960}, {0, 2000, 500}, {0, 1000, 300}, {1, 100, 30},
            {0, 8, 3}, {0, 50, 10}, {0, 2000, 500}, {0, 20, 5}};

    private State now = new State();
    private final Deque<State> past = new ArrayDeque<>();
    private final State[] images = new State[2];
    private final StringBuilder text = new StringBuilder();
    private int[] fault = null;

    /** All that a change records. */
    private static final class State {
        long clock, grade, broken, offGrade, valve, brokeGrade, reason = NONE, lost;
        long inflow, given, spilled, drained, broke;
        long[] fibre = {400, 0, 0, 0}, water = {9600, 0, 0, 0}, greatest = new long[4], paper = new long[4];
        long[] settings = new long[9];
        List<Long> measured = new ArrayList<>();
        List<long[]> schedule = new ArrayList<>();
        boolean spillsInStepSix;

        State() {
            for (int i = 0; i < 9; i++) {
                settings[i] = RANGE[i][2];
            }
        }

        State copy() {
            State other = new State();
            other.clock = clock;
            other.grade = grade;
            other.broken = broken;
            other.offGrade = offGrade;
            other.valve = valve;
            other.brokeGrade = brokeGrade;
            other.reason = reason;
            other.lost = lost;
            other.inflow = inflow;
            other.given = given;
            other.spilled = spilled;
            other.drained = drained;
            other.broke = broke;
            other.fibre = fibre.clone();
            other.water = water.clone();
            other.greatest = greatest.clone();
            other.paper = paper.clone();
            other.settings = settings.clone();
            other.measured = new ArrayList<>(measured);
            other.schedule = new ArrayList<>(schedule);
            return other;
        }

        long sum(int chest) {
            return fibre[chest] + water[chest];
        }

        long consistency(int chest) {
            return sum(chest) == 0 ? 0 : Math.floorDiv(fibre[chest] * 1000, sum(chest));
        }

        long allPaper() {
            return paper[0] + paper[1] + paper[2] + paper[3];
        }

        /** Returns the fibre that is taken. */
        long take(int chest, long mass) {
            long taken = sum(chest) == 0 ? 0 : Math.floorDiv(mass * fibre[chest], sum(chest));
            fibre[chest] -= taken;
            water[chest] -= mass - taken;
            return taken;
        }

        /** Returns the fibre that is spilled. */
        long putInto(int chest, long moreFibre, long moreWater) {
            fibre[chest] += moreFibre;
            water[chest] += moreWater;
            long lostFibre = sum(chest) > ROOM[chest] ? take(chest, sum(chest) - ROOM[chest]) : 0;
            spilled += lostFibre;
            return lostFibre;
        }

        void breakFor(long ticks) {
            if (ticks > broken) {
                broken = ticks;
            }
        }

        void gradeIs(long other) {
            if (other != grade) {
                grade = other;
                offGrade = settings[8];
            }
        }

        void tick() {
            clock++;
            for (long[] entry : schedule) {
                if (entry[0] == clock) {
                    carryOut(entry);
                }
            }
            inflow += settings[0];
            putInto(0, settings[0], settings[1]);
            mix();
            long flow = Math.min(settings[2], sum(2));
            long stock = take(2, flow);
            putInto(3, stock, flow - stock + Math.floorDiv(valve * flow, 1000L));
            control();
            sheet();
            if (broken > 0) {
                broken--;
            }
            if (offGrade > 0) {
                offGrade--;
            }
            for (int chest = 0; chest < 4; chest++) {
                greatest[chest] = Math.max(greatest[chest], sum(chest));
            }
        }

        private void carryOut(long[] entry) {
            if (entry[1] == 0) {
                breakFor(entry[2]);
            } else if (entry[1] == 1) {
                gradeIs(entry[2]);
            } else {
                settings[2] = entry[2];
            }
        }

        private void mix() {
            long demand = Math.min(settings[2], ROOM[2] - sum(2));
            long wanted = brokeGrade != grade ? 0 : Math.floorDiv(demand * settings[3], 1000L);
            long fromBroke = Math.min(wanted, sum(1));
            long fromPulp = Math.min(demand - fromBroke, sum(0));
            if (demand == 0) {
                reason = 0;
            } else if (brokeGrade != grade) {
                reason = 3;
            } else if (settings[3] == 0) {
                reason = 1;
            } else if (fromBroke < wanted) {
                reason = 2;
            } else {
                reason = 0;
            }
            long brokeFibre = take(1, fromBroke);
            long pulpFibre = take(0, fromPulp);
            putInto(2, brokeFibre, fromBroke - brokeFibre);
            putInto(2, pulpFibre, fromPulp - pulpFibre);
        }

        private void control() {
            measured.add(consistency(3));
            int before = measured.size() - 1 - (int) settings[5];
            if (before >= 0) {
                valve += (measured.get(before) - settings[4]) * settings[6];
                if (valve < 0) {
                    valve = 0;
                }
                if (valve > 3000) {
                    valve = 3000;
                }
            }
        }

        private void sheet() {
            long onto = take(3, Math.min(settings[2], sum(3)));
            spillsInStepSix = false;
            if (broken == 0 && offGrade == 0) {
                paper[(int) grade] += onto;
                return;
            }
            lost++;
            broke += onto;
            spillsInStepSix = sum(1) + onto + settings[7] > ROOM[1];
            putInto(1, onto, settings[7]);
            brokeGrade = grade;
        }
    }

    private static boolean in(int number, int least, int most) {
        return least <= number && number <= most;
    }

    private void record() {
        past.addLast(now.copy());
        if (past.size() > 8) {
            past.removeFirst();
        }
    }

    long begin() {
        record();
        State old = now;
        now = new State();
        now.settings = old.settings;
        now.schedule = old.schedule;
        return old.clock;
    }

    long set(int setting, int value) {
        if (!in(setting, 0, 8) || !in(value, RANGE[setting][0], RANGE[setting][1])) {
            return BAD;
        }
        record();
        long was = now.settings[setting];
        now.settings[setting] = value;
        return was;
    }

    long tear(int ticks) {
        if (!in(ticks, 1, 50)) {
            return BAD;
        }
        record();
        now.breakFor(ticks);
        return now.broken;
    }

    long change(int grade) {
        if (!in(grade, 0, 3)) {
            return BAD;
        }
        record();
        long was = now.grade;
        now.gradeIs(grade);
        return was;
    }

    long fill(int chest, int fibre, int water) {
        if (!in(chest, 0, 3) || !in(fibre, 0, 5000) || !in(water, 0, 50000)) {
            return BAD;
        }
        record();
        now.given += fibre;
        return now.putInto(chest, fibre, water);
    }

    long drain(int chest, int mass) {
        if (!in(chest, 0, 3) || !in(mass, 1, 50000)) {
            return BAD;
        }
        record();
        long fibre = now.take(chest, Math.min(mass, now.sum(chest)));
        now.drained += fibre;
        return fibre;
    }

    long plan() {
        List<long[]> entries = new ArrayList<>();
        int[] found = read(entries);
        if (found != null) {
            fault = found;
            return STATE;
        }
        record();
        now.schedule = new ArrayList<>();
        for (int time = 1; time <= 9999; time++) {
            for (long[] entry : entries) {
                if (entry[0] == time) {
                    now.schedule.add(entry);
                }
            }
        }
        return now.schedule.size();
    }

    /** Reads the text byte by byte; returns the kind and the place of the first fault, or null. */
    private int[] read(List<long[]> entries) {
        int expects = 0;
        int kind = 0;
        int first = 0;
        long time = 0;
        for (int i = 0; i <= text.length(); i++) {
            boolean atEnd = i == text.length();
            char c = atEnd ? '\n' : text.charAt(i);
            boolean digit = '0' <= c && c <= '9';
            if (expects == 0) {
                kind = "bgf".indexOf(c);
                if (kind >= 0) {
                    if (entries.size() == 20) {
                        return new int[] {4, i};
                    }
                    expects = 1;
                } else if (!atEnd && c != ' ') {
                    return new int[] {1, i};
                }
            } else if (expects == 1 || expects == 3) {
                if (!digit) {
                    return atEnd ? new int[] {3, i} : new int[] {1, i};
                }
                first = i;
                expects++;
            } else if (digit) {
                if (i - first == 4) {
                    return new int[] {1, i};
                }
            } else {
                int number = Integer.parseInt(text.substring(first, i));
                if (!inItsRange(expects, kind, number)) {
                    return new int[] {2, first};
                }
                if (expects == 4) {
                    entries.add(new long[] {time, kind, number});
                }
                if (atEnd && expects == 2) {
                    return new int[] {3, i};
                }
                if (!atEnd && c != (expects == 2 ? ':' : ' ')) {
                    return new int[] {1, i};
                }
                time = number;
                expects = expects == 2 ? 3 : 0;
            }
        }
        return null;
    }

    private static boolean inItsRange(int expects, int kind, int number) {
        if (expects == 2) {
            return in(number, 1, 9999);
        }
        int[] most = {50, 3, 2000};
        return in(number, kind == 0 ? 1 : 0, most[kind]);
    }

    long run(int n) {
        if (!in(n, 1, 200)) {
            return BAD;
        }
        record();
        long before = now.allPaper();
        for (int i = 0; i < n; i++) {
            now.tick();
        }
        return now.allPaper() - before;
    }

    long undo() {
        if (past.isEmpty()) {
            return STATE;
        }
        now = past.removeLast();
        return past.size();
    }

    long write(int code) {
        if (!in(code, 32, 126)) {
            return BAD;
        }
        if (text.length() == 120) {
            return FULL;
        }
        text.append((char) code);
        return text.length();
    }

    long wipe() {
        int was = text.length();
        text.setLength(0);
        return was;
    }

    long fault(int what) {
        if (!in(what, 0, 1)) {
            return BAD;
        }
        return fault == null ? NONE : fault[what];
    }

    long told(int what) {
        long ahead = now.schedule.stream().filter(entry -> entry[0] > now.clock).count();
        int size = now.measured.size();
        long[] all = {now.clock, now.grade, now.broken, now.offGrade, now.valve, now.brokeGrade, now.reason,
                size == 0 ? NONE : now.measured.get(size - 1), now.schedule.size(), ahead, now.lost, text.length(),
                past.size()};
        return in(what, 0, 12) ? all[what] : BAD;
    }

    long setting(int setting) {
        return in(setting, 0, 8) ? now.settings[setting] : BAD;
    }

    long chest(int chest, int what) {
        if (!in(chest, 0, 3) || !in(what, 0, 4)) {
            return BAD;
        }
        long[] all = {now.fibre[chest], now.water[chest], now.consistency(chest), ROOM[chest] - now.sum(chest),
                now.greatest[chest]};
        return all[what];
    }

    long account(int what) {
        long inChests = now.fibre[0] + now.fibre[1] + now.fibre[2] + now.fibre[3];
        long[] all = {now.inflow, now.given, now.allPaper(), now.spilled, now.drained, inChests, 400, now.broke};
        return in(what, 0, 7) ? all[what] : BAD;
    }

    long paper(int grade) {
        return in(grade, 0, 3) ? now.paper[grade] : BAD;
    }

    long entry(int entry, int what) {
        return in(entry, 0, now.schedule.size() - 1) && in(what, 0, 2) ? now.schedule.get(entry)[what] : BAD;
    }

    float paperShare() {
        long all = now.allPaper() + now.broke;
        return all == 0 ? 0.0f : (float) now.allPaper() / (float) all;
    }

    long later(int n, int what) {
        if (!in(n, 1, 300) || !in(what, 0, 3)) {
            return BAD;
        }
        State then = now.copy();
        for (int i = 0; i < n; i++) {
            then.tick();
        }
        long[] all = {then.allPaper() - now.allPaper(), then.spilled - now.spilled, then.consistency(3), then.fibre[1]};
        return all[what];
    }

    long overflow() {
        State then = now.copy();
        for (int ticks = 1; ticks <= 300; ticks++) {
            then.broken = Math.max(then.broken, 2);
            then.tick();
            if (then.spillsInStepSix) {
                return ticks;
            }
        }
        return NONE;
    }

    long bestLimit(int n) {
        if (!in(n, 1, 100)) {
            return BAD;
        }
        long[] made = new long[21];
        int best = 0;
        for (int i = 0; i <= 20; i++) {
            State then = now.copy();
            then.settings[3] = 50 * i;
            for (int tick = 0; tick < n; tick++) {
                then.tick();
            }
            made[i] = then.allPaper() - now.allPaper();
            best = made[i] > made[best] ? i : best;
        }
        return 50 * best;
    }

    long keep(int i) {
        if (!in(i, 0, 1)) {
            return BAD;
        }
        images[i] = now.copy();
        return now.clock;
    }

    long back(int i) {
        if (!in(i, 0, 1)) {
            return BAD;
        }
        if (images[i] == null) {
            return STATE;
        }
        record();
        now = images[i].copy();
        return now.clock;
    }
}
