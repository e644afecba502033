/** Promises 18 to 21: the detectors and their reset. */
public final class DetectorTests {
    private static final Checks CHECKS = new Checks();

    public static void main(String[] args) {
        detector();
        average();
        occupancy();
        reset();
        CHECKS.finish();
    }

    private static void detectors(OccupancyMonitor x, int channel, int... due) {
        for (int what = 0; what < due.length; what++) {
            CHECKS.due("detector(" + channel + ", " + what + ")", x.detector(channel, what), due[what]);
        }
    }

    private static void detector() {
        OccupancyMonitor x = Checks.withPlan("4-6:1;");
        x.addPulsed(4, 30, 0, 1, 1);
        x.addPulsed(5, 31, 0, 1, 2);
        x.addPulsed(6, 80, 3, 1, 4);
        x.setMask(4, 4, 30);
        x.setMask(5, 5, 9);
        x.setMask(6, 6, 79);
        x.run(10);
        detectors(x, 4, 10, 0, 30, 0);
        detectors(x, 5, 10, 5, 31, 10);
        detectors(x, 6, 10, 2, 80, 2);
        detectors(x, 3, 0, 0, -1, 0);
        detectors(x, 7, 0, 0, -1, 0);
        x.setMask(6, 6, 80);
        x.run(1);
        detectors(x, 6, 11, 3, 80, 2);
        CHECKS.dueThrows("detector(-1, 0)", x, Checks.INDEX, () -> x.detector(-1, 0));
        CHECKS.dueThrows("detector(32, 0)", x, Checks.INDEX, () -> x.detector(32, 0));
        CHECKS.dueThrows("detector(32, 4)", x, Checks.INDEX, () -> x.detector(32, 4));
        CHECKS.dueThrows("detector(0, 4)", x, Checks.ARGUMENT, () -> x.detector(0, 4));
        CHECKS.dueThrows("detector(0, -1)", x, Checks.ARGUMENT, () -> x.detector(0, -1));
        peakOfSilence();
    }

    private static void peakOfSilence() {
        OccupancyMonitor x = Checks.withPlan("0:1;");
        x.setLevels(0, 0);
        x.run(1);
        detectors(x, 0, 1, 0, 0, 0);
        CHECKS.due("average(0) of level 0", x.average(0), 0);
    }

    private static void average() {
        OccupancyMonitor x = Checks.withPlan("0:1;");
        CHECKS.due("average(0) without observations", x.average(0), -1);
        x.addPulsed(0, 95, 3, 1, 1000);
        x.addPulsed(0, 17, 5, 1, 1000);
        // The levels: 10 10 95 10 17 10 10 10 | 10 10 10 10 10 10.
        int[] due = {10, 10, 38, 31, 28, 25, 23, 21, 21, 21, 10, 10, 10, 10};
        for (int tick = 1; tick <= due.length; tick++) {
            x.run(1);
            CHECKS.due("average(0) after " + tick + " observations", x.average(0), due[tick - 1]);
        }
        CHECKS.due("average(1)", x.average(1), -1);
        x.undo();
        x.undo();
        x.undo();
        x.undo();
        CHECKS.due("average(0) after undo", x.average(0), 21);
        CHECKS.dueThrows("average(-1)", x, Checks.INDEX, () -> x.average(-1));
        CHECKS.dueThrows("average(32)", x, Checks.INDEX, () -> x.average(32));
    }

    private static void occupancy() {
        OccupancyMonitor x = Checks.withPlan("0-3:1;");
        x.addPulsed(0, 90, 0, 1, 1);
        x.addPulsed(1, 90, 0, 1, 3);
        x.addPulsed(2, 90, 7, 1, 1);
        CHECKS.dueDouble("occupancy(0) without observations", x.occupancy(0), 0.0);
        x.run(7);
        CHECKS.dueDouble("occupancy(0)", x.occupancy(0), 1.0);
        CHECKS.dueDouble("occupancy(1)", x.occupancy(1), 2.0 / 7.0);
        CHECKS.dueDouble("occupancy(2)", x.occupancy(2), 1.0 / 7.0);
        CHECKS.dueDouble("occupancy(3)", x.occupancy(3), 0.0);
        CHECKS.dueDouble("occupancy(4)", x.occupancy(4), 0.0);
        CHECKS.dueThrows("occupancy(-1)", x, Checks.INDEX, () -> x.occupancy(-1));
        CHECKS.dueThrows("occupancy(32)", x, Checks.INDEX, () -> x.occupancy(32));
    }

    private static void reset() {
        OccupancyMonitor x = Checks.withPlan("0-1:1;9:1;");
        CHECKS.due("reset() without events", x.reset(), 0);
        CHECKS.due("undo() of it", x.undo(), 1);
        x.addPulsed(0, 90, 0, 1, 1);
        x.addPulsed(1, 80, 1, 1, 4);
        x.setMask(1, 1, 55);
        x.run(9);
        long before = x.digest();
        CHECKS.due("events() before reset()", x.events(), 4);
        CHECKS.due("reset()", x.reset(), 4);
        CHECKS.due("events() after reset()", x.events(), 0);
        CHECKS.due("chains() after reset()", x.chains(), 0);
        detectors(x, 0, 0, 0, -1, 0);
        detectors(x, 1, 0, 0, -1, 0);
        CHECKS.due("average(0) after reset()", x.average(0), -1);
        CHECKS.dueDouble("occupancy(0) after reset()", x.occupancy(0), 0.0);
        CHECKS.due("presentStep() after reset()", x.presentStep(), 1);
        CHECKS.due("level(0) after reset()", x.level(0), 90);
        CHECKS.due("steps() after reset()", x.steps(), 2);
        x.run(2);
        // The open event went with the others: tick 11 opens another one.
        CHECKS.dueText("events after reset()", Checks.eventTable(x), "0 11 11 90 1 -1 0;");
        detectors(x, 0, 1, 1, 90, 0);
        CHECKS.due("average(0) of the new levels alone", x.average(0), 90);
        CHECKS.due("setMask: the mask outlives reset()", x.setMask(1, 1, 55), 55);
        x.undo();
        x.undo();
        x.undo();
        CHECKS.due("events() after undo", x.events(), 4);
        CHECKS.due("digest() after undo, with 1 saved state and not 4", x.digest(), before - 3);
    }
}
