/** Promises 22 to 26: the event log and the hop chains. */
public final class EventTests {
    private static final Checks CHECKS = new Checks();

    public static void main(String[] args) {
        openAndClose();
        orderInOneTick();
        fiftyEvents();
        openEventsStay();
        unobservedStaysOpen();
        eventErrors();
        hopChain();
        predecessorConditions();
        predecessorChoice();
        onePerPredecessor();
        sameChannel();
        openPredecessor();
        chainOfKeptEvents();
        CHECKS.finish();
    }

    private static void events(String name, OccupancyMonitor x, String due) {
        CHECKS.dueText(name, Checks.eventTable(x), due);
    }

    /** A pulse that is seen once. */
    private static void pulse(OccupancyMonitor x, int channel, int level, int start, int on) {
        x.addPulsed(channel, level, start, on, 1000);
    }

    private static void openAndClose() {
        OccupancyMonitor x = Checks.withPlan("0:1;");
        pulse(x, 0, 50, 2, 4);
        pulse(x, 0, 70, 3, 1);
        pulse(x, 0, 60, 4, 1);
        x.run(1);
        CHECKS.due("events() of none", x.events(), 0);
        x.run(1);
        events("opened", x, "0 2 2 50 1 -1 0;");
        x.run(1);
        events("higher peak", x, "0 2 3 70 1 -1 0;");
        x.run(2);
        events("lower levels", x, "0 2 5 70 1 -1 0;");
        x.run(1);
        events("closed", x, "0 2 5 70 0 -1 0;");
        x.run(5);
        events("stays closed", x, "0 2 5 70 0 -1 0;");
        CHECKS.due("events() of one", x.events(), 1);
        pulse(x, 0, 31, 15, 1);
        x.run(4);
        events("another one", x, "0 2 5 70 0 -1 0; 0 15 15 31 1 -1 1;");
        CHECKS.due("events() of two", x.events(), 2);
    }

    private static void orderInOneTick() {
        OccupancyMonitor x = Checks.withPlan("0-31:1;");
        pulse(x, 20, 50, 1, 2);
        pulse(x, 5, 50, 1, 2);
        pulse(x, 11, 50, 1, 2);
        x.run(1);
        events("ascending channels", x, "5 1 1 50 1 -1 0; 11 1 1 50 1 -1 1; 20 1 1 50 1 -1 2;");
    }

    /** Channel 0 is always on (open from tick 1), channel 1 at each even tick. */
    private static void fiftyEvents() {
        OccupancyMonitor x = Checks.withPlan("0-1:1;");
        x.addPulsed(0, 50, 0, 1, 1);
        x.addPulsed(1, 60, 0, 1, 2);
        x.run(98);
        CHECKS.due("events() at tick 98", x.events(), 50);
        CHECKS.due("event(1, 1)", x.event(1, 1), 2);
        CHECKS.due("event(49, 4)", x.event(49, 4), 1);
        x.run(1);
        CHECKS.due("events() at tick 99", x.events(), 50);
        CHECKS.due("event(1, 1) at tick 99", x.event(1, 1), 2);
        x.run(1);
        CHECKS.due("events() at tick 100", x.events(), 50);
        CHECKS.due("the open event 0 stays", x.event(0, 0), 0);
        CHECKS.due("the open event 0 goes on", x.event(0, 2), 100);
        for (int event = 1; event < 50; event++) {
            CHECKS.due("event(" + event + ", 1) at tick 100", x.event(event, 1), 2 * event + 2);
            CHECKS.due("event(" + event + ", 4) at tick 100", x.event(event, 4), event == 49 ? 1 : 0);
        }
        x.run(1000);
        CHECKS.due("events() at tick 1100", x.events(), 50);
        CHECKS.due("event(0, 1) at tick 1100", x.event(0, 1), 1);
        CHECKS.due("event(1, 1) at tick 1100", x.event(1, 1), 1004);
        x.undo();
        CHECKS.due("event(1, 1) after undo", x.event(1, 1), 4);
        x.run(2);
        CHECKS.due("event(1, 1) after undo and run", x.event(1, 1), 6);
        CHECKS.due("event(0, 2) after undo and run", x.event(0, 2), 102);
    }

    /** Channel 3 opens while closed events stand before it, and stays when they are dropped. */
    private static void openEventsStay() {
        OccupancyMonitor x = Checks.withPlan("0-3:1;");
        x.addPulsed(1, 60, 0, 1, 2);
        pulse(x, 3, 90, 5, 995);
        x.run(104);
        // Channel 1 has opened 52 events, at ticks 2 to 104; with channel 3 one they are 53, 3 too many.
        CHECKS.due("events()", x.events(), 50);
        CHECKS.due("event(0, 0)", x.event(0, 0), 3);
        CHECKS.due("event(0, 1)", x.event(0, 1), 5);
        CHECKS.due("event(0, 2)", x.event(0, 2), 104);
        CHECKS.due("event(1, 1)", x.event(1, 1), 8);
        CHECKS.due("event(49, 1)", x.event(49, 1), 104);
        x.run(900);
        // Tick 1000 has closed channel 3, so that it was the first closed one.
        CHECKS.due("event(0, 0) after its end", x.event(0, 0), 1);
        CHECKS.due("events() after its end", x.events(), 50);
    }

    private static void unobservedStaysOpen() {
        OccupancyMonitor x = Checks.withPlan("0:2;1:3;");
        pulse(x, 0, 50, 2, 1);
        x.run(5);
        events("not observed since", x, "0 2 2 50 1 -1 0;");
        Checks.parse(x, "7:1;");
        x.run(100);
        events("in no plan", x, "0 2 2 50 1 -1 0;");
        Checks.parse(x, "0:1;");
        x.run(1);
        events("observed again", x, "0 2 2 50 0 -1 0;");
        x.setLevels(40, 39);
        x.run(1);
        events("a hit of the floor", x, "0 2 2 50 0 -1 0; 0 107 107 40 1 -1 1;");
        x.setLevels(40, 40);
        x.run(1);
        events("closed by the threshold", x, "0 2 2 50 0 -1 0; 0 107 107 40 0 -1 1;");
    }

    private static void eventErrors() {
        OccupancyMonitor x = Checks.withPlan("0:1;");
        CHECKS.dueThrows("event(0, 0) of none", x, Checks.INDEX, () -> x.event(0, 0));
        CHECKS.dueThrows("chainLength(0) of none", x, Checks.INDEX, () -> x.chainLength(0));
        CHECKS.dueThrows("hopInterval(0) of none", x, Checks.INDEX, () -> x.hopInterval(0));
        pulse(x, 0, 50, 1, 1);
        x.run(3);
        CHECKS.due("chainLength(0)", x.chainLength(0), 1);
        CHECKS.dueDouble("hopInterval(0)", x.hopInterval(0), 0.0);
        CHECKS.due("chains()", x.chains(), 1);
        for (int event : new int[] {-1, 1, 50, Integer.MIN_VALUE, Integer.MAX_VALUE}) {
            CHECKS.dueThrows("event(" + event + ", 0)", x, Checks.INDEX, () -> x.event(event, 0));
            CHECKS.dueThrows("event(" + event + ", 7)", x, Checks.INDEX, () -> x.event(event, 7));
            CHECKS.dueThrows("chainLength(" + event + ")", x, Checks.INDEX, () -> x.chainLength(event));
            CHECKS.dueThrows("hopInterval(" + event + ")", x, Checks.INDEX, () -> x.hopInterval(event));
        }
        CHECKS.dueThrows("event(0, 7)", x, Checks.ARGUMENT, () -> x.event(0, 7));
        CHECKS.dueThrows("event(0, -1)", x, Checks.ARGUMENT, () -> x.event(0, -1));
    }

    private static void hopChain() {
        OccupancyMonitor x = Checks.withPlan("0-31:1;");
        x.addHopping(4, 5, 3, 70, 2);
        pulse(x, 0, 40, 6, 1);
        x.run(12);
        events("a chain and an event beside it", x, "4 2 4 70 0 -1 0; 9 5 7 70 0 0 0; 0 6 6 40 0 -1 2; "
                + "14 8 10 70 0 1 0; 19 11 12 70 1 3 0;");
        CHECKS.due("chains()", x.chains(), 2);
        int[] lengths = {4, 4, 1, 4, 4};
        double[] intervals = {3.0, 3.0, 0.0, 3.0, 3.0};
        for (int event = 0; event < lengths.length; event++) {
            CHECKS.due("chainLength(" + event + ")", x.chainLength(event), lengths[event]);
            CHECKS.dueDouble("hopInterval(" + event + ")", x.hopInterval(event), intervals[event]);
        }
        unevenInterval();
    }

    private static void unevenInterval() {
        OccupancyMonitor x = Checks.withPlan("0-31:1;");
        pulse(x, 0, 70, 1, 2);
        pulse(x, 1, 70, 3, 1);
        pulse(x, 2, 70, 8, 1);
        pulse(x, 3, 70, 12, 1);
        x.run(13);
        CHECKS.due("uneven: chainLength(2)", x.chainLength(2), 4);
        CHECKS.dueDouble("uneven: hopInterval(2)", x.hopInterval(2), 11.0 / 3.0);
    }

    /** Whether an event of channel 0 from tick 1 to 3 precedes one of channel 1. */
    private static void precedes(int peak, int start, int gap, int tolerance, boolean due) {
        OccupancyMonitor x = Checks.withPlan("0-1:1;");
        x.setHops(gap, tolerance);
        pulse(x, 0, 60, 1, 3);
        pulse(x, 1, peak, start, 1);
        x.run(40);
        CHECKS.due("predecessor with peak " + peak + ", start " + start + ", gap " + gap + ", tolerance "
                + tolerance, x.event(1, 5), due ? 0 : -1);
        CHECKS.due("first of its chain", x.event(1, 6), due ? 0 : 1);
    }

    private static void predecessorConditions() {
        precedes(60, 4, 10, 5, true);
        precedes(60, 3, 10, 5, false);
        precedes(60, 2, 10, 5, false);
        precedes(60, 13, 10, 5, true);
        precedes(60, 14, 10, 5, false);
        precedes(60, 4, 1, 5, true);
        precedes(60, 5, 1, 5, false);
        precedes(65, 5, 10, 5, true);
        precedes(66, 5, 10, 5, false);
        precedes(55, 5, 10, 5, true);
        precedes(54, 5, 10, 5, false);
        precedes(60, 5, 10, 0, true);
        precedes(61, 5, 10, 0, false);
        precedes(100, 5, 10, 40, true);
    }

    private static void predecessorChoice() {
        OccupancyMonitor x = Checks.withPlan("0-31:1;");
        pulse(x, 0, 60, 1, 6);
        pulse(x, 1, 60, 2, 3);
        pulse(x, 2, 60, 9, 1);
        x.run(20);
        events("the greatest end", x, "0 1 6 60 0 -1 0; 1 2 4 60 0 -1 1; 2 9 9 60 0 0 0;");
        OccupancyMonitor y = Checks.withPlan("0-31:1;");
        pulse(y, 3, 60, 1, 4);
        pulse(y, 1, 60, 2, 3);
        pulse(y, 7, 60, 3, 2);
        pulse(y, 2, 60, 9, 1);
        y.run(20);
        events("of several the highest number", y,
                "3 1 4 60 0 -1 0; 1 2 4 60 0 -1 1; 7 3 4 60 0 -1 2; 2 9 9 60 0 2 2;");
    }

    private static void onePerPredecessor() {
        OccupancyMonitor x = Checks.withPlan("0-31:1;");
        pulse(x, 0, 60, 1, 2);
        pulse(x, 1, 60, 1, 1);
        pulse(x, 2, 60, 4, 1);
        pulse(x, 3, 60, 4, 1);
        pulse(x, 4, 60, 4, 1);
        x.run(20);
        events("each has one successor at most", x, "0 1 2 60 0 -1 0; 1 1 1 60 0 -1 1; "
                + "2 4 4 60 0 0 0; 3 4 4 60 0 1 1; 4 4 4 60 0 -1 4;");
        CHECKS.due("chains()", x.chains(), 3);
        CHECKS.due("chainLength(3)", x.chainLength(3), 2);
        CHECKS.due("chainLength(4)", x.chainLength(4), 1);
    }

    private static void sameChannel() {
        OccupancyMonitor x = Checks.withPlan("0-31:1;");
        pulse(x, 0, 60, 1, 1);
        pulse(x, 0, 60, 3, 1);
        pulse(x, 1, 60, 5, 1);
        pulse(x, 0, 60, 7, 1);
        x.run(20);
        events("no predecessor in the same channel", x, "0 1 1 60 0 -1 0; 0 3 3 60 0 -1 1; "
                + "1 5 5 60 0 1 1; 0 7 7 60 0 2 1;");
    }

    /** An open event is no predecessor even if it ends before; it becomes one when it is closed. */
    private static void openPredecessor() {
        OccupancyMonitor x = Checks.withPlan("0:2;1:2;");
        pulse(x, 0, 60, 2, 1);
        pulse(x, 1, 60, 3, 1);
        x.run(4);
        events("open", x, "0 2 2 60 1 -1 0; 1 3 3 60 0 -1 1;");
        x.run(1);
        events("closed", x, "0 2 2 60 0 -1 0; 1 3 3 60 0 0 0;");
        x.undo();
        events("open after undo", x, "0 2 2 60 1 -1 0; 1 3 3 60 0 -1 1;");
    }

    private static void chainOfKeptEvents() {
        OccupancyMonitor x = Checks.withPlan("0-31:1;");
        x.addHopping(0, 1, 1, 70, 0);
        x.run(60);
        CHECKS.due("events()", x.events(), 50);
        CHECKS.due("event(0, 1)", x.event(0, 1), 11);
        CHECKS.due("event(0, 5)", x.event(0, 5), -1);
        CHECKS.due("event(49, 6)", x.event(49, 6), 0);
        CHECKS.due("chains()", x.chains(), 1);
        CHECKS.due("chainLength(20)", x.chainLength(20), 50);
        CHECKS.dueDouble("hopInterval(20)", x.hopInterval(20), 1.0);
        x.setHops(10, 0);
        x.undo();
        CHECKS.due("chains() after undo", x.chains(), 1);
    }
}
