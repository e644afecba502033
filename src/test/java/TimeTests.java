/** Promises 15 to 17: time and levels. */
public final class TimeTests {
    private static final Checks CHECKS = new Checks();

    public static void main(String[] args) {
        run();
        sweep();
        presentStep();
        level();
        CHECKS.finish();
    }

    private static void run() {
        OccupancyMonitor x = new OccupancyMonitor();
        CHECKS.due("run(0)", x.run(0), 0);
        CHECKS.due("run(2000)", x.run(2000), 2000);
        CHECKS.due("run(1)", x.run(1), 2001);
        CHECKS.dueThrows("run(-1)", x, Checks.ARGUMENT, () -> x.run(-1));
        CHECKS.dueThrows("run(2001)", x, Checks.ARGUMENT, () -> x.run(2001));
        CHECKS.dueThrows("run(least)", x, Checks.ARGUMENT, () -> x.run(Integer.MIN_VALUE));
        for (int channel = 0; channel < 32; channel++) {
            CHECKS.due("without steps nothing is observed", x.detector(channel, 0), 0);
        }
        CHECKS.due("undo() of run(1)", x.undo(), 2);
        CHECKS.due("run(0) after undo", x.run(0), 2000);
        CHECKS.due("undo() of run(0)", x.undo(), 2);
        CHECKS.due("undo() of run(2000)", x.undo(), 1);
        CHECKS.due("run(3) after undo", x.run(3), 3);
    }

    /** The first tick that is observed is tick 1, and it is observed in step 0. */
    private static void sweep() {
        OccupancyMonitor x = Checks.withPlan("0-1:2;1-2:1;");
        x.addPulsed(0, 50, 0, 1, 3);
        x.addPulsed(1, 60, 1, 1, 1000);
        x.addPulsed(2, 70, 3, 1, 3);
        x.run(7);
        // Ticks 1 2 | 3 | 4 5 | 6 | 7: step 0 has channels 0 and 1, step 1 has 1 and 2.
        int[][] due = {{5, 0, 10, 0}, {7, 1, 60, 0}, {2, 2, 70, 0}, {0, 0, -1, 0}};
        for (int channel = 0; channel < due.length; channel++) {
            for (int what = 0; what < 4; what++) {
                CHECKS.due("sweep: detector(" + channel + ", " + what + ")",
                        x.detector(channel, what), due[channel][what]);
            }
        }
        CHECKS.dueText("sweep: events", Checks.eventTable(x), "1 1 1 60 0 -1 0; 2 3 6 70 1 -1 1;");
    }

    private static void presentStep() {
        OccupancyMonitor x = Checks.withPlan("0:2;1:1;2:3;");
        int[] due = {0, 0, 1, 2, 2, 2, 0, 0, 1, 2};
        for (int tick = 0; tick < due.length; tick++) {
            CHECKS.due("presentStep() at tick " + tick, x.presentStep(), due[tick]);
            x.run(1);
        }
        Checks.parse(x, "4:20;");
        x.run(45);
        CHECKS.due("presentStep() of one step", x.presentStep(), 0);
        Checks.parse(x, "  ");
        CHECKS.due("presentStep() without steps", x.presentStep(), -1);
    }

    private static void level() {
        OccupancyMonitor x = Checks.withPlan("7:1;");
        x.addPulsed(0, 100, 0, 1, 2);
        CHECKS.due("level(0) at tick 0, not observed", x.level(0), 100);
        x.run(1);
        CHECKS.due("level(0) at tick 1", x.level(0), 10);
        x.run(1);
        CHECKS.due("level(0) at tick 2", x.level(0), 100);
        CHECKS.due("level() observes nothing", x.detector(0, 0), 0);
        x.setLevels(0, 0);
        CHECKS.due("level(31) with the floor 0", x.level(31), 0);
        CHECKS.dueThrows("level(-1)", x, Checks.INDEX, () -> x.level(-1));
        CHECKS.dueThrows("level(32)", x, Checks.INDEX, () -> x.level(32));
    }
}
