/** Promises 27 and 28: undo and digest. */
public final class StateTests {
    private static final Checks CHECKS = new Checks();

    public static void main(String[] args) {
        undo();
        onlyUndoableCallsSave();
        undoRestoresAll();
        undoReopensEvent();
        undoOfSettings();
        undoLeavesText();
        digestOfNewObject();
        digestOfFullObject();
        CHECKS.finish();
    }

    private static void undo() {
        OccupancyMonitor x = new OccupancyMonitor();
        CHECKS.dueThrows("undo() of nothing", x, Checks.STATE, () -> x.undo());
        for (int call = 1; call <= 6; call++) {
            x.run(call);
        }
        int[] ticks = {15, 10, 6, 3};
        for (int call = 0; call < ticks.length; call++) {
            CHECKS.due("undo() number " + call, x.undo(), 3 - call);
            CHECKS.due("tick after undo number " + call, x.run(0), ticks[call]);
            CHECKS.due("undo() of run(0)", x.undo(), 3 - call);
        }
        CHECKS.dueThrows("undo() of a dropped state", x, Checks.STATE, () -> x.undo());
        CHECKS.due("the tick stays", x.run(0), 3);
    }

    private static void saves(String call, long before, OccupancyMonitor x, int saved) {
        int left = x.undo();
        CHECKS.due(call + " saves a state", left, saved);
        CHECKS.due(call + " is undone", x.digest(), before);
    }

    private static void onlyUndoableCallsSave() {
        OccupancyMonitor x = Checks.withPlan("0-31:1;");
        x.addPulsed(0, 50, 0, 1, 1);
        x.undo();
        x.undo();
        long before = x.digest();
        x.addPulsed(0, 50, 0, 1, 1);
        saves("addPulsed", before, x, 0);
        x.addHopping(0, 1, 1, 50, 0);
        saves("addHopping", before, x, 0);
        x.setLevels(10, 30);
        saves("setLevels without a change", before, x, 0);
        x.setMask(0, 31, 100);
        saves("setMask without a change", before, x, 0);
        x.setHops(10, 5);
        saves("setHops without a change", before, x, 0);
        x.parsePlan();
        saves("parsePlan", before, x, 0);
        x.run(0);
        saves("run(0)", before, x, 0);
        x.reset();
        saves("reset without a change", before, x, 0);
        x.addPulsed(0, 50, 0, 1, 1);
        before = x.digest();
        x.removeSignal(0);
        saves("removeSignal", before, x, 1);
        x.steps();
        x.planByte(0);
        x.revisit(0);
        x.presentStep();
        x.level(0);
        x.detector(0, 0);
        x.average(0);
        x.occupancy(0);
        x.events();
        x.chains();
        CHECKS.due("calls that only answer change nothing", x.digest(), before);
        x.append('x');
        x.parsePlan();
        x.clearText();
        CHECKS.due("a parsePlan with an error saves nothing", x.undo(), 0);
    }

    private static void undoRestoresAll() {
        OccupancyMonitor x = Checks.withPlan("0-9:3;10-20:2;");
        x.addPulsed(2, 60, 0, 1, 3);
        x.addHopping(1, 7, 2, 62, 1);
        x.setLevels(12, 33);
        x.setHops(20, 9);
        x.setMask(0, 5, 44);
        x.run(40);
        x.run(0);
        long before = x.digest();
        String events = Checks.eventTable(x);
        x.run(500);
        x.undo();
        x.addHopping(3, 3, 3, 100, 0);
        x.setMask(0, 31, 5);
        x.undo();
        x.undo();
        CHECKS.due("digest() after undo, with 2 saved states and not 4", x.digest(), before - 2);
        CHECKS.dueText("events after undo", Checks.eventTable(x), events);
        // What digest does not show is restored too: both objects go on alike.
        OccupancyMonitor y = Checks.withPlan("0-9:3;10-20:2;");
        y.addPulsed(2, 60, 0, 1, 3);
        y.addHopping(1, 7, 2, 62, 1);
        y.setLevels(12, 33);
        y.setHops(20, 9);
        y.setMask(0, 5, 44);
        y.run(40);
        x.run(0);
        x.run(0);
        for (int call = 0; call < 30; call++) {
            x.run(call % 4);
            y.run(call % 4);
            CHECKS.due("digest() of both", x.digest(), y.digest());
        }
        CHECKS.due("events() of both", x.events(), y.events());
    }

    private static void undoReopensEvent() {
        OccupancyMonitor x = Checks.withPlan("0:1;");
        x.addPulsed(0, 50, 0, 5, 10);
        x.run(3);
        x.run(4);
        CHECKS.dueText("closed", Checks.eventTable(x), "0 1 4 50 0 -1 0;");
        x.undo();
        CHECKS.dueText("open after undo", Checks.eventTable(x), "0 1 3 50 1 -1 0;");
        x.run(1);
        CHECKS.dueText("goes on after undo", Checks.eventTable(x), "0 1 4 50 1 -1 0;");
        x.undo();
        x.undo();
        CHECKS.due("events() of before", x.events(), 0);
        x.run(1);
        CHECKS.dueText("opened anew", Checks.eventTable(x), "0 1 1 50 1 -1 0;");
    }

    private static void undoOfSettings() {
        OccupancyMonitor x = Checks.withPlan("0:1;");
        long before = x.digest();
        x.setHops(10, 6);
        saves("setHops with another tolerance", before, x, 1);
        x.setHops(11, 5);
        saves("setHops with another gap", before, x, 1);
        x.setLevels(11, 30);
        saves("setLevels with another floor", before, x, 1);
        x.setLevels(10, 31);
        saves("setLevels with another threshold", before, x, 1);
        x.setMask(7, 8, 99);
        saves("setMask with another mask", before, x, 1);
    }

    private static void undoLeavesText() {
        OccupancyMonitor x = Checks.withPlan("1:1;");
        x.run(1);
        x.append('2');
        x.append(':');
        x.undo();
        CHECKS.due("undo() leaves the text", x.append('2'), 7);
        CHECKS.due("undo()", x.undo(), 0);
        x.append(';');
        CHECKS.due("the text is parsed whole", x.parsePlan(), 2);
        CHECKS.dueText("the plan", Checks.written(x), "1:1;2:2;");
    }

    private static long hash(long hash, long... values) {
        long mixed = hash;
        for (long value : values) {
            mixed = 31 * mixed + value;
        }
        return mixed;
    }

    private static long hashQuietChannels(long hash, int number, int mask) {
        long mixed = hash;
        for (int channel = 0; channel < number; channel++) {
            mixed = hash(mixed, mask, 0, 0, -1, 0, -1);
        }
        return mixed;
    }

    private static void digestOfNewObject() {
        long due = hash(2851, 0, 0, 10, 30, 10, 5, 0, 0, -1);
        due = hash(hashQuietChannels(due, 32, 100), 0, 0);
        CHECKS.due("digest() of a new object", new OccupancyMonitor().digest(), due);
    }

    private static void digestOfFullObject() {
        OccupancyMonitor x = Checks.withPlan("0-1:2;3:1;");
        x.addPulsed(0, 60, 2, 1, 5);
        x.addHopping(1, 2, 1000, 64, 4);
        x.setLevels(11, 35);
        x.setHops(12, 7);
        x.setMask(1, 2, 50);
        x.run(5);
        // Channels 0 and 1 at ticks 1, 2, 4, 5; channel 3 at tick 3.
        long due = hash(2851, 10, 5, 11, 35, 12, 7, 2);
        due = hash(due, 0, 0, 60, 2, 1, 5, 1, 1, 2, 1000, 64, 4);
        due = hash(due, 2, 0, 1, 2, 3, 3, 1, 1);
        due = hash(due, 100, 4, 1, 60, 0, 23);
        due = hash(due, 50, 4, 2, 64, 2, 37);
        due = hash(due, 50, 0, 0, -1, 0, -1);
        due = hash(due, 100, 1, 0, 11, 0, 11);
        due = hashQuietChannels(due, 28, 100);
        due = hash(due, 2, 0, 2, 2, 60, 0, -1, 0, 1, 4, 5, 64, 1, 0, 0);
        due = hash(due, 4);
        CHECKS.due("digest() of a full object", x.digest(), due);
    }
}
