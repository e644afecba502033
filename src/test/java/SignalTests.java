/** Promises 1 to 7: a new object, signals and settings. */
public final class SignalTests {
    private static final Checks CHECKS = new Checks();

    public static void main(String[] args) {
        newObject();
        addPulsed();
        addHopping();
        loudestSignal();
        tenSignals();
        removeSignal();
        setLevels();
        setMask();
        setHops();
        CHECKS.finish();
    }

    private static void newObject() {
        CHECKS.due("NONE", OccupancyMonitor.NONE, -1);
        OccupancyMonitor x = new OccupancyMonitor();
        CHECKS.dueThrows("new: undo()", x, Checks.STATE, () -> x.undo());
        CHECKS.dueThrows("new: removeSignal(0)", x, Checks.INDEX, () -> x.removeSignal(0));
        CHECKS.due("new: clearText()", x.clearText(), 0);
        CHECKS.due("new: steps()", x.steps(), 0);
        CHECKS.due("new: presentStep()", x.presentStep(), -1);
        CHECKS.due("new: planByte(0)", x.planByte(0), -1);
        CHECKS.due("new: events()", x.events(), 0);
        CHECKS.due("new: chains()", x.chains(), 0);
        for (int channel = 0; channel < 32; channel++) {
            CHECKS.due("new: level(" + channel + ")", x.level(channel), 10);
            CHECKS.due("new: detector(" + channel + ", 0)", x.detector(channel, 0), 0);
            CHECKS.due("new: detector(" + channel + ", 1)", x.detector(channel, 1), 0);
            CHECKS.due("new: detector(" + channel + ", 2)", x.detector(channel, 2), -1);
            CHECKS.due("new: detector(" + channel + ", 3)", x.detector(channel, 3), 0);
            CHECKS.due("new: revisit(" + channel + ")", x.revisit(channel), -1);
            CHECKS.due("new: setMask(" + channel + ", ..)", x.setMask(channel, channel, 100), 100);
        }
        CHECKS.due("new: setLevels(10, 30)", x.setLevels(10, 30), 30);
        CHECKS.due("new: setHops(10, 5)", x.setHops(10, 5), 10);
        CHECKS.due("new: run(0)", x.run(0), 0);
        OccupancyMonitor other = new OccupancyMonitor();
        CHECKS.due("another object's run(0)", other.run(0), 0);
        CHECKS.due("another object's undo()", other.undo(), 0);
    }

    private static void addPulsed() {
        OccupancyMonitor x = new OccupancyMonitor();
        CHECKS.due("addPulsed: number", x.addPulsed(3, 60, 0, 2, 5), 0);
        CHECKS.due("addPulsed: number", x.addPulsed(31, 70, 3, 1, 4), 1);
        String[] due = {
            "3=60", "3=60", "", "31=70", "", "3=60", "3=60", "31=70", "", "", "3=60", "3=60 31=70", "", ""
        };
        for (int tick = 0; tick < due.length; tick++) {
            CHECKS.dueText("addPulsed: raised at tick " + tick, Checks.raised(x, 10), due[tick]);
            x.run(1);
        }
        alwaysOn();
    }

    private static void alwaysOn() {
        OccupancyMonitor x = new OccupancyMonitor();
        x.addPulsed(8, 90, 20, 7, 7);
        x.run(19);
        CHECKS.dueText("addPulsed: raised at tick 19", Checks.raised(x, 10), "");
        for (int tick = 20; tick < 30; tick++) {
            x.run(1);
            CHECKS.due("addPulsed: always on from tick 20", x.level(8), 90);
        }
        wrongPulsed(x);
        CHECKS.due("addPulsed: least arguments", x.addPulsed(0, 0, 0, 1, 1), 1);
        CHECKS.due("addPulsed: greatest arguments", x.addPulsed(31, 100, 100000, 1000, 1000), 2);
        CHECKS.due("addPulsed: undo()", x.undo(), 3);
        CHECKS.due("addPulsed: number after undo", x.addPulsed(0, 0, 0, 1, 1000), 2);
    }

    private static void wrongPulsed(OccupancyMonitor x) {
        int[][] wrong = {
            {-1, 0, 0, 1, 1}, {32, 0, 0, 1, 1}, {0, -1, 0, 1, 1}, {0, 101, 0, 1, 1}, {0, 0, -1, 1, 1},
            {0, 0, 100001, 1, 1}, {0, 0, 0, 0, 1}, {0, 0, 0, 2, 1}, {0, 0, 0, 1001, 1000}, {0, 0, 0, 1, 0},
            {0, 0, 0, 1, 1001}, {0, 0, 0, 0, 0}, {0, 0, 0, -1, -1}, {Integer.MIN_VALUE, 0, 0, 1, 1},
            {0, 0, 0, 1, Integer.MAX_VALUE}, {0, 0, Integer.MAX_VALUE, 1, 1}
        };
        for (int[] a : wrong) {
            CHECKS.dueThrows("addPulsed(" + java.util.Arrays.toString(a) + ")", x, Checks.ARGUMENT,
                    () -> x.addPulsed(a[0], a[1], a[2], a[3], a[4]));
        }
    }

    private static void addHopping() {
        OccupancyMonitor x = new OccupancyMonitor();
        CHECKS.due("addHopping: number", x.addHopping(30, 5, 2, 80, 1), 0);
        String[] due = {"", "30=80", "30=80", "3=80", "3=80", "8=80", "8=80", "13=80", "13=80", "18=80"};
        for (int tick = 0; tick < due.length; tick++) {
            CHECKS.dueText("addHopping: raised at tick " + tick, Checks.raised(x, 10), due[tick]);
            x.run(1);
        }
        int[][] wrong = {
            {-1, 1, 1, 0, 0}, {32, 1, 1, 0, 0}, {0, 0, 1, 0, 0}, {0, 32, 1, 0, 0}, {0, 1, 0, 0, 0},
            {0, 1, 1001, 0, 0}, {0, 1, 1, -1, 0}, {0, 1, 1, 101, 0}, {0, 1, 1, 0, -1}, {0, 1, 1, 0, 100001},
            {0, -1, 1, 0, 0}, {0, 1, Integer.MIN_VALUE, 0, 0}
        };
        for (int[] a : wrong) {
            CHECKS.dueThrows("addHopping(" + java.util.Arrays.toString(a) + ")", x, Checks.ARGUMENT,
                    () -> x.addHopping(a[0], a[1], a[2], a[3], a[4]));
        }
        CHECKS.due("addHopping: least arguments", x.addHopping(0, 1, 1, 0, 0), 1);
        CHECKS.due("addHopping: greatest arguments", x.addHopping(31, 31, 1000, 100, 100000), 2);
        CHECKS.due("addHopping: undo()", x.undo(), 3);
        CHECKS.due("addHopping: number after undo", x.addHopping(0, 1, 1, 0, 0), 2);
        farHopping();
    }

    private static void farHopping() {
        OccupancyMonitor x = new OccupancyMonitor();
        x.addHopping(31, 31, 1, 55, 0);
        for (int call = 0; call < 400; call++) {
            x.run(2000);
        }
        // (31 + 31 * 800000) modulo 32 = 31, as 800000 is a multiple of 32.
        CHECKS.dueText("addHopping: raised at tick 800000", Checks.raised(x, 10), "31=55");
        x.run(1);
        CHECKS.dueText("addHopping: raised at tick 800001", Checks.raised(x, 10), "30=55");
    }

    private static void loudestSignal() {
        OccupancyMonitor x = new OccupancyMonitor();
        x.addPulsed(5, 40, 0, 1, 1);
        x.addPulsed(5, 70, 0, 1, 2);
        x.addHopping(5, 1, 1, 60, 0);
        x.addPulsed(6, 9, 0, 1, 1);
        CHECKS.dueText("the loudest signal counts", Checks.raised(x, 10), "5=70");
        x.run(1);
        CHECKS.dueText("the loudest signal counts", Checks.raised(x, 10), "5=40 6=60");
    }

    private static void tenSignals() {
        OccupancyMonitor x = new OccupancyMonitor();
        for (int signal = 0; signal < 10; signal++) {
            int number = signal % 2 == 0 ? x.addPulsed(0, 0, 0, 1, 1) : x.addHopping(0, 1, 1, 0, 0);
            CHECKS.due("number of signal " + signal, number, signal);
        }
        CHECKS.dueThrows("eleventh addPulsed", x, Checks.STATE, () -> x.addPulsed(0, 0, 0, 1, 1));
        CHECKS.dueThrows("eleventh addHopping", x, Checks.STATE, () -> x.addHopping(0, 1, 1, 0, 0));
        CHECKS.dueThrows("eleventh, wrong addPulsed", x, Checks.ARGUMENT, () -> x.addPulsed(0, 0, 0, 2, 1));
        CHECKS.dueThrows("eleventh, wrong addHopping", x, Checks.ARGUMENT, () -> x.addHopping(0, 0, 1, 0, 0));
        CHECKS.due("removeSignal(9)", x.removeSignal(9), 9);
        CHECKS.due("addHopping behind it", x.addHopping(0, 1, 1, 0, 0), 9);
    }

    private static void removeSignal() {
        OccupancyMonitor x = new OccupancyMonitor();
        x.addPulsed(1, 51, 0, 1, 1);
        x.addHopping(2, 1, 1000, 52, 0);
        x.addPulsed(3, 53, 0, 1, 1);
        CHECKS.dueThrows("removeSignal(-1)", x, Checks.INDEX, () -> x.removeSignal(-1));
        CHECKS.dueThrows("removeSignal(3)", x, Checks.INDEX, () -> x.removeSignal(3));
        CHECKS.due("removeSignal(0)", x.removeSignal(0), 2);
        CHECKS.dueText("removeSignal: raised", Checks.raised(x, 10), "2=52 3=53");
        CHECKS.due("removeSignal(1)", x.removeSignal(1), 1);
        CHECKS.dueText("removeSignal: raised", Checks.raised(x, 10), "2=52");
        CHECKS.due("removeSignal: undo()", x.undo(), 3);
        CHECKS.due("removeSignal: undo()", x.undo(), 2);
        CHECKS.dueText("removeSignal: raised after undo", Checks.raised(x, 10), "1=51 2=52 3=53");
        x.removeSignal(1);
        x.removeSignal(1);
        CHECKS.due("removeSignal(0)", x.removeSignal(0), 0);
        CHECKS.dueThrows("removeSignal(0)", x, Checks.INDEX, () -> x.removeSignal(0));
    }

    private static void setLevels() {
        OccupancyMonitor x = Checks.withPlan("0-1:1;");
        x.addPulsed(0, 40, 0, 1, 1);
        CHECKS.due("setLevels(20, 40)", x.setLevels(20, 40), 30);
        CHECKS.due("setLevels: level(5)", x.level(5), 20);
        x.run(3);
        CHECKS.due("setLevels: a level at the threshold is no hit", x.detector(0, 1), 0);
        CHECKS.due("setLevels(41, 39)", x.setLevels(41, 39), 40);
        CHECKS.due("setLevels: the floor is above the signal", x.level(0), 41);
        x.run(2);
        CHECKS.due("setLevels: hits of the floor", x.detector(1, 1), 2);
        CHECKS.due("setLevels: undo() of run", x.undo(), 3);
        CHECKS.due("setLevels: undo()", x.undo(), 2);
        CHECKS.due("setLevels: floor after undo", x.level(5), 20);
        CHECKS.due("setLevels: threshold after undo", x.setLevels(0, 0), 40);
        CHECKS.due("setLevels(100, 100)", x.setLevels(100, 100), 0);
        int[][] wrong = {{-1, 0}, {101, 0}, {0, -1}, {0, 101}};
        for (int[] a : wrong) {
            CHECKS.dueThrows("setLevels(" + a[0] + ", " + a[1] + ")", x, Checks.ARGUMENT,
                    () -> x.setLevels(a[0], a[1]));
        }
    }

    private static void setMask() {
        OccupancyMonitor x = Checks.withPlan("0-31:1;");
        for (int channel = 0; channel < 8; channel++) {
            x.addPulsed(channel, 60, 0, 1, 1);
        }
        CHECKS.due("setMask(2, 4, 59)", x.setMask(2, 4, 59), 100);
        CHECKS.due("setMask(4, 5, 60)", x.setMask(4, 5, 60), 59);
        x.run(3);
        int[] due = {0, 0, 3, 3, 0, 0, 0, 0, 0};
        for (int channel = 0; channel < due.length; channel++) {
            CHECKS.due("setMask: detector(" + channel + ", 3)", x.detector(channel, 3), due[channel]);
        }
        CHECKS.due("setMask(31, 31, 0)", x.setMask(31, 31, 0), 100);
        CHECKS.due("setMask: undo()", x.undo(), 3);
        CHECKS.due("setMask: after undo", x.setMask(31, 31, 7), 100);
        CHECKS.due("setMask: whole range", x.setMask(0, 31, 1), 100);
        CHECKS.due("setMask: whole range", x.setMask(31, 31, 2), 1);
        int[][] channels = {{-1, 0}, {0, 32}, {32, 32}, {5, 4}, {-2, -1}, {0, -1}, {33, 40},
            {0, Integer.MAX_VALUE}, {Integer.MIN_VALUE, 0}};
        for (int[] a : channels) {
            String call = "setMask(" + a[0] + ", " + a[1] + ", ";
            CHECKS.dueThrows(call + "0)", x, Checks.INDEX, () -> x.setMask(a[0], a[1], 0));
            CHECKS.dueThrows(call + "101)", x, Checks.INDEX, () -> x.setMask(a[0], a[1], 101));
        }
        CHECKS.dueThrows("setMask(0, 0, 101)", x, Checks.ARGUMENT, () -> x.setMask(0, 0, 101));
        CHECKS.dueThrows("setMask(0, 0, -1)", x, Checks.ARGUMENT, () -> x.setMask(0, 0, -1));
    }

    private static void setHops() {
        OccupancyMonitor x = new OccupancyMonitor();
        CHECKS.due("setHops(1, 0)", x.setHops(1, 0), 10);
        CHECKS.due("setHops(1000, 100)", x.setHops(1000, 100), 1);
        CHECKS.due("setHops: undo()", x.undo(), 1);
        CHECKS.due("setHops(7, 3)", x.setHops(7, 3), 1);
        int[][] wrong = {{0, 0}, {1001, 0}, {1, -1}, {1, 101}, {-5, 0}};
        for (int[] a : wrong) {
            CHECKS.dueThrows("setHops(" + a[0] + ", " + a[1] + ")", x, Checks.ARGUMENT,
                    () -> x.setHops(a[0], a[1]));
        }
        gapAndTolerance();
    }

    /** Two events: channel 0 ends at tick 2 with peak 60, channel 1 starts at tick 6 with peak 67. */
    private static void gapAndTolerance() {
        OccupancyMonitor x = Checks.withPlan("0-1:1;");
        x.addPulsed(0, 60, 2, 1, 1000);
        x.addPulsed(1, 67, 6, 1, 1000);
        x.run(10);
        int[][] cases = {{10, 5, 2}, {10, 6, 2}, {10, 7, 1}, {4, 7, 1}, {3, 7, 2}, {1000, 100, 1}};
        for (int[] a : cases) {
            x.setHops(a[0], a[1]);
            CHECKS.due("setHops(" + a[0] + ", " + a[1] + "): chains()", x.chains(), a[2]);
        }
    }
}
