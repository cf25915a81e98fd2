/** A TICK, step 5: the measurement, its delay, and the valve. */
public final class ControlTest {
    private static final int NONE = BrokeLoop.NONE;

    public static void main(String[] args) {
        valveAtFirst();
        valveAtMost();
        valveAtLeast();
        boundsHoldInEachTick();
        noMeasurementSoFarBack();
        firstMeasurementOfTheDelay();
        measurementsSinceTheLoopWasBegun();
        delayIsChanged();
        measurementsWrapAround();
        measurementsAreKept();
        measurementsAreUndone();
        measurementBeforeATick();
        Checks.end("ControlTest");
    }

    /** A loop without a flow, so that the machine chest keeps what is filled into it. */
    private static BrokeLoop still(int delay, int gain, int target) {
        BrokeLoop loop = new BrokeLoop();
        loop.set(2, 0);
        loop.set(5, delay);
        loop.set(6, gain);
        loop.set(4, target);
        return loop;
    }

    /** Does a tick in which the machine chest has this consistency. */
    private static void measure(BrokeLoop loop, int consistency) {
        loop.drain(3, 50000);
        loop.fill(3, consistency, 1000 - consistency);
        loop.run(1);
        Checks.due("measurement", loop.told(7), consistency);
    }

    /** "The valve, which is 0 at first". */
    private static void valveAtFirst() {
        BrokeLoop loop = new BrokeLoop();
        Checks.due("the valve at first", loop.told(4), 0);
        Checks.due("a first tick without water of the valve", loop.run(1), 20);
        Checks.chestHas("a first tick", loop, 3, 0, 0);
    }

    /** "At most 3000." */
    private static void valveAtMost() {
        BrokeLoop loop = still(0, 50, 30);
        measure(loop, 89);
        Checks.due("59 * 50", loop.told(4), 2950);
        loop.set(6, 49);
        measure(loop, 31);
        Checks.due("one below", loop.told(4), 2999);
        loop.set(6, 1);
        measure(loop, 31);
        Checks.due("just so much", loop.told(4), 3000);
        measure(loop, 31);
        Checks.due("one more", loop.told(4), 3000);
        loop.set(6, 50);
        measure(loop, 1000);
        Checks.due("far more", loop.told(4), 3000);
        measure(loop, 29);
        Checks.due("nothing of it was left", loop.told(4), 2950);
    }

    /** "At least 0." */
    private static void valveAtLeast() {
        BrokeLoop loop = still(0, 1, 30);
        measure(loop, 32);
        Checks.due("2", loop.told(4), 2);
        measure(loop, 29);
        Checks.due("one above", loop.told(4), 1);
        measure(loop, 29);
        Checks.due("just 0", loop.told(4), 0);
        measure(loop, 29);
        Checks.due("one less", loop.told(4), 0);
        loop.set(4, 100);
        loop.set(6, 50);
        measure(loop, 0);
        Checks.due("far less", loop.told(4), 0);
        measure(loop, 101);
        Checks.due("nothing of it was left", loop.told(4), 50);
    }

    private static void boundsHoldInEachTick() {
        BrokeLoop loop = still(0, 50, 1);
        loop.fill(3, 1000, 0);
        loop.run(10);
        Checks.due("10 ticks up", loop.told(4), 3000);
        loop.set(4, 100);
        loop.drain(3, 50000);
        loop.run(10);
        Checks.due("10 ticks down", loop.told(4), 0);
    }

    /** "The measurement of so many ticks before as the delay tells, if there was one": none, and the valve stays. */
    private static void noMeasurementSoFarBack() {
        for (int delay = 1; delay <= 8; delay++) {
            BrokeLoop loop = still(delay, 10, 30);
            for (int tick = 1; tick <= delay; tick++) {
                measure(loop, 40 + tick);
                Checks.due("delay " + delay + ", tick " + tick, loop.told(4), 0);
            }
        }
    }

    private static void firstMeasurementOfTheDelay() {
        for (int delay = 0; delay <= 8; delay++) {
            BrokeLoop loop = still(delay, 10, 30);
            for (int tick = 1; tick <= delay + 1; tick++) {
                measure(loop, 40 + tick);
            }
            Checks.due("delay " + delay + ", the first one", loop.told(4), (41 - 30) * 10);
            measure(loop, 0);
            int due = 110 + ((delay == 0 ? 0 : 42) - 30) * 10;
            Checks.due("delay " + delay + ", the second one", loop.told(4), Math.max(0, due));
        }
    }

    /** "If there was one since the loop was begun". */
    private static void measurementsSinceTheLoopWasBegun() {
        BrokeLoop loop = still(3, 10, 30);
        for (int tick = 1; tick <= 9; tick++) {
            measure(loop, 50);
        }
        Checks.holds("the valve is open", loop.told(4) > 0);
        loop.begin();
        Checks.due("measurement of a loop that is begun", loop.told(7), NONE);
        Checks.due("valve of a loop that is begun", loop.told(4), 0);
        for (int tick = 1; tick <= 3; tick++) {
            measure(loop, 40);
            Checks.due("tick " + tick + " behind begin()", loop.told(4), 0);
        }
        measure(loop, 40);
        Checks.due("tick 4 behind begin()", loop.told(4), 100);
    }

    /** The delay is that of the tick, and the measurements before it are there whatever it was. */
    private static void delayIsChanged() {
        BrokeLoop loop = still(0, 0, 1);
        for (int tick = 1; tick <= 12; tick++) {
            measure(loop, 100 + tick);
        }
        loop.set(6, 1);
        loop.set(5, 8);
        measure(loop, 0);
        Checks.due("8 before the 13th", loop.told(4), 105 - 1);
        loop.set(5, 0);
        measure(loop, 11);
        Checks.due("the 14th", loop.told(4), 104 + 10);
        loop.set(5, 1);
        measure(loop, 500);
        Checks.due("1 before the 15th", loop.told(4), 114 + 10);
        loop.set(5, 7);
        measure(loop, 500);
        Checks.due("7 before the 16th", loop.told(4), 124 + 108);
    }

    private static void measurementsWrapAround() {
        for (int delay = 0; delay <= 8; delay++) {
            BrokeLoop loop = still(delay, 1, 1);
            int[] measured = new int[40];
            int valve = 0;
            for (int tick = 0; tick < measured.length; tick++) {
                measured[tick] = 2 + tick * 37 % 41;
                measure(loop, measured[tick]);
                valve += tick < delay ? 0 : measured[tick - delay] - 1;
                Checks.due("delay " + delay + ", tick " + (tick + 1), loop.told(4), valve);
            }
        }
    }

    private static void measurementsAreKept() {
        BrokeLoop loop = still(3, 1, 1);
        for (int tick = 1; tick <= 3; tick++) {
            measure(loop, 10 * tick);
        }
        loop.keep(0);
        for (int tick = 1; tick <= 9; tick++) {
            measure(loop, 900);
        }
        loop.back(0);
        Checks.due("the latest one of the image", loop.told(7), 30);
        int[] due = {9, 9 + 19, 28 + 29, 57 + 700 - 1};
        for (int tick = 0; tick < due.length; tick++) {
            measure(loop, 700);
            Checks.due("tick " + (tick + 1) + " behind back()", loop.told(4), due[tick]);
        }
    }

    private static void measurementsAreUndone() {
        BrokeLoop loop = still(3, 1, 1);
        for (int tick = 1; tick <= 3; tick++) {
            measure(loop, 10 * tick);
        }
        loop.run(20);
        loop.undo();
        Checks.due("the latest one before", loop.told(7), 30);
        int[] due = {9, 9 + 19, 28 + 29, 57 + 700 - 1};
        for (int tick = 0; tick < due.length; tick++) {
            measure(loop, 700);
            Checks.due("tick " + (tick + 1) + " behind undo()", loop.told(4), due[tick]);
        }
    }

    /** told(7): "the measurement of the latest tick (NONE if there was none)", not the consistency of now. */
    private static void measurementBeforeATick() {
        BrokeLoop loop = still(0, 10, 30);
        loop.fill(3, 100, 900);
        Checks.due("no tick yet", loop.told(7), NONE);
        loop.run(1);
        Checks.due("a tick", loop.told(7), 100);
        loop.fill(3, 1000, 0);
        Checks.due("filled behind it", loop.told(7), 100);
        loop.undo();
        loop.undo();
        Checks.due("no tick again", loop.told(7), NONE);
    }
}
