/** The sentences of "Events" and "Hop chains", and of promises 22 to 26. */
final class EventSentences {
    private static final int LEAST = Integer.MIN_VALUE;
    private static final int GREATEST = Integer.MAX_VALUE;
    private static final Sentences.Setup FRESH = Sentences.FRESH;
    private static final Sentences.Setup BUSY = Sentences.BUSY;
    /** 50 events of channel 20, at the even ticks from 2 to 100. */
    private static final Sentences.Setup FIFTY = () -> pulsing(100);

    private final Sentences s;

    EventSentences(Sentences sentences) {
        s = sentences;
    }

    void test() {
        events();
        fiftyEvents();
        hopChains();
        eventCount();
        event();
        chainLength();
        chains();
        hopInterval();
    }

    private static OccupancyMonitor all() {
        return Checks.withPlan("0-31:1;");
    }

    /** A pulse that is seen once in the first 1000 ticks. */
    private static void pulse(OccupancyMonitor x, int channel, int level, int start, int on) {
        x.addPulsed(channel, level, start, on, 1000);
    }

    private static OccupancyMonitor pulsing(int ticks) {
        OccupancyMonitor x = all();
        x.addPulsed(20, 60, 2, 1, 2);
        x.run(ticks);
        return x;
    }

    /** Channel 0 is observed with these levels, one after another. */
    private static OccupancyMonitor observed(int... levels) {
        OccupancyMonitor x = Checks.withPlan("0:1;");
        for (int level : levels) {
            x.setLevels(level, 30);
            x.run(1);
        }
        return x;
    }

    // ---- Description: events

    private void events() {
        s.at("Events");
        s.test("A hit in a channel that has no open event opens an event, with this tick as its start and its end,"
                + " and the level as its peak.", () -> {
            s.dueEvents("no hit", observed(30), "");
            s.dueEvents("a hit", observed(31), "0 1 1 31 1 -1 0;");
            s.dueEvents("a hit at tick 3", observed(0, 30, 100), "0 3 3 100 1 -1 0;");
            s.dueEvents("a hit after a closed event", observed(40, 30, 50), "0 1 1 40 0 -1 0; 0 3 3 50 1 -1 1;");
            OccupancyMonitor x = all();
            pulse(x, 4, 40, 1, 9);
            pulse(x, 5, 50, 2, 9);
            x.run(2);
            s.dueEvents("a hit beside an open event", x, "4 1 2 40 1 -1 0; 5 2 2 50 1 -1 1;");
        });
        s.test("A hit in a channel with an open event makes this tick the end of the event, and the level its peak if"
                + " it is greater.", () -> {
            s.dueEvents("the same level", observed(40, 40), "0 1 2 40 1 -1 0;");
            s.dueEvents("a greater level", observed(40, 41), "0 1 2 41 1 -1 0;");
            s.dueEvents("a lower level", observed(40, 39), "0 1 2 40 1 -1 0;");
            s.dueEvents("the least hit", observed(40, 100, 31), "0 1 3 100 1 -1 0;");
        });
        s.test("An observation that is no hit closes the open event of the channel, if there is one.", () -> {
            s.dueEvents("a level at the threshold", observed(40, 30), "0 1 1 40 0 -1 0;");
            s.dueEvents("a level above the threshold", observed(40, 31), "0 1 2 40 1 -1 0;");
            s.dueEvents("a closed event", observed(40, 30, 0), "0 1 1 40 0 -1 0;");
            s.dueEvents("no event", observed(30, 0), "");
            OccupancyMonitor x = all();
            pulse(x, 4, 40, 1, 2);
            pulse(x, 5, 50, 1, 1);
            x.run(2);
            s.dueEvents("another channel's event", x, "4 1 2 40 1 -1 0; 5 1 1 50 0 -1 1;");
            unobserved();
        });
        s.test("Events are numbered from 0 in this order.", () -> {
            OccupancyMonitor x = all();
            pulse(x, 9, 40, 1, 9);
            pulse(x, 3, 50, 2, 1);
            pulse(x, 7, 60, 2, 1);
            x.run(3);
            s.dueEvents("three events", x, "9 1 3 40 1 -1 0; 3 2 2 50 0 -1 1; 7 2 2 60 0 -1 2;");
            s.dueText("event(-1, 0)", Sentences.attempt(x, y -> y.event(-1, 0)), "IndexOutOfBoundsException");
            s.dueText("event(3, 0)", Sentences.attempt(x, y -> y.event(3, 0)), "IndexOutOfBoundsException");
        });
    }

    /** A tick in which the channel is not observed leaves its event open. */
    private void unobserved() {
        OccupancyMonitor x = Checks.withPlan("0:1;1:3;");
        pulse(x, 0, 50, 1, 1);
        x.run(4);
        s.dueEvents("the channel was not observed", x, "0 1 1 50 1 -1 0;");
        x.run(1);
        s.dueEvents("the channel was observed", x, "0 1 1 50 0 -1 0;");
    }

    private void dueEvent(OccupancyMonitor x, int event, int channel, int start, int open) {
        s.due("event(" + event + ", 0)", x.event(event, 0), channel);
        s.due("event(" + event + ", 1)", x.event(event, 1), start);
        s.due("event(" + event + ", 4)", x.event(event, 4), open);
    }

    private void fiftyEvents() {
        s.test("At most 50 events are kept", () -> {
            OccupancyMonitor x = pulsing(98);
            s.due("events() after 49", x.events(), 49);
            x.run(2);
            s.due("events() after 50", x.events(), 50);
            dueEvent(x, 0, 20, 2, 0);
            dueEvent(x, 49, 20, 100, 1);
            x.run(1);
            s.due("events() when none is opened", x.events(), 50);
            dueEvent(x, 0, 20, 2, 0);
            dueEvent(x, 49, 20, 100, 0);
            x.run(1);
            s.due("events() after 51", x.events(), 50);
            dueEvent(x, 0, 20, 4, 0);
            dueEvent(x, 49, 20, 102, 1);
            x.run(2000);
            s.due("events() after 1051", x.events(), 50);
            dueEvent(x, 0, 20, 2004, 0);
        });
        s.test("in the order in which they were opened", () -> {
            OccupancyMonitor x = pulsing(104);
            for (int event = 0; event < 50; event++) {
                s.due("event(" + event + ", 1)", x.event(event, 1), 2 * event + 6);
            }
        });
        s.test("if there are 50 when another one is opened, the first closed one is dropped before", () -> {
            openOnesStay();
            manyOpenOnes();
            closedInTheSameTick();
            openedBeforeTheClosing();
            twoInOneTick();
            closedLate();
        });
    }

    /** Channel 5 is open from tick 1 on, so that the event behind it is the first closed one. */
    private void openOnesStay() {
        OccupancyMonitor x = all();
        pulse(x, 5, 50, 1, 999);
        x.addPulsed(20, 60, 2, 1, 2);
        x.run(98);
        s.due("events() with one open", x.events(), 50);
        x.run(2);
        s.due("events() with one open", x.events(), 50);
        dueEvent(x, 0, 5, 1, 1);
        dueEvent(x, 1, 20, 4, 0);
        s.due("the end of the open one", x.event(0, 2), 100);
    }

    /** 31 open events stand before 19 closed ones. */
    private void manyOpenOnes() {
        OccupancyMonitor x = Checks.withPlan("0-30:1;");
        x.setLevels(40, 30);
        x.run(1);
        x.setLevels(10, 30);
        Checks.parse(x, "31:1;");
        x.addPulsed(31, 60, 2, 1, 2);
        x.run(38);
        s.due("events() with 31 open", x.events(), 50);
        dueEvent(x, 30, 30, 1, 1);
        dueEvent(x, 31, 31, 2, 0);
        x.run(1);
        s.due("events() with 31 open and one more", x.events(), 50);
        dueEvent(x, 30, 30, 1, 1);
        dueEvent(x, 31, 31, 4, 0);
        dueEvent(x, 49, 31, 40, 1);
    }

    private static OccupancyMonitor closesAt99(int opening) {
        OccupancyMonitor x = all();
        pulse(x, 5, 50, 1, 98);
        x.addPulsed(20, 60, 2, 1, 2);
        pulse(x, opening, 70, 99, 1);
        x.run(99);
        return x;
    }

    /** Channel 5 is observed before channel 7: its event is closed when the other one is opened. */
    private void closedInTheSameTick() {
        OccupancyMonitor x = closesAt99(7);
        s.due("events() after a closing and an opening", x.events(), 50);
        dueEvent(x, 0, 20, 2, 0);
        dueEvent(x, 49, 7, 99, 1);
    }

    /** Channel 3 is observed before channel 5, whose event is still open then. */
    private void openedBeforeTheClosing() {
        OccupancyMonitor x = closesAt99(3);
        s.due("events() after an opening and a closing", x.events(), 50);
        dueEvent(x, 0, 5, 1, 0);
        dueEvent(x, 1, 20, 4, 0);
        dueEvent(x, 49, 3, 99, 1);
    }

    private void twoInOneTick() {
        OccupancyMonitor x = pulsing(100);
        pulse(x, 1, 70, 101, 1);
        pulse(x, 2, 70, 101, 1);
        x.run(1);
        s.due("events() after two openings", x.events(), 50);
        dueEvent(x, 0, 20, 6, 0);
        dueEvent(x, 48, 1, 101, 1);
        dueEvent(x, 49, 2, 101, 1);
    }

    /** The first one is told by the order of the events, not by the time of its closing. */
    private void closedLate() {
        OccupancyMonitor x = all();
        pulse(x, 5, 50, 1, 97);
        x.addPulsed(20, 60, 2, 1, 2);
        x.run(98);
        dueEvent(x, 0, 5, 1, 0);
        x.run(2);
        s.due("events()", x.events(), 50);
        dueEvent(x, 0, 20, 2, 0);
    }

    // ---- Description: hop chains

    /** Two events of one tick each, in channels 0 and 1, so many ticks apart. */
    private static OccupancyMonitor pair(int ticks, int peak, int nextPeak) {
        OccupancyMonitor x = all();
        x.setLevels(0, 0);
        if (ticks == 0) {
            pulse(x, 0, peak, 1, 1);
            pulse(x, 1, nextPeak, 1, 1);
            x.run(2);
            return x;
        }
        Sentences.hit(x, 0, peak, 1);
        x.run(ticks - 1);
        Sentences.hit(x, 1, nextPeak, 1);
        x.run(1);
        return x;
    }

    private void duePredecessor(String call, OccupancyMonitor x, boolean want) {
        s.due(call + ": event(1, 5)", x.event(1, 5), want ? 0 : -1);
        s.due(call + ": event(1, 6)", x.event(1, 6), want ? 0 : 1);
        s.due(call + ": chains()", x.chains(), want ? 1 : 2);
    }

    private void hopChains() {
        s.at("Hop chains");
        s.test("There are a gap, 1 to 1000 ticks, initially 10", () -> {
            duePredecessor("10 ticks", pair(10, 50, 50), true);
            duePredecessor("11 ticks", pair(11, 50, 50), false);
            s.accepted("setHops(1, 5)", FRESH, x -> x.setHops(1, 5), 10);
            s.accepted("setHops(1000, 5)", FRESH, x -> x.setHops(1000, 5), 10);
            s.refusedArgument("setHops(0, 5)", BUSY, x -> x.setHops(0, 5));
            s.refusedArgument("setHops(1001, 5)", BUSY, x -> x.setHops(1001, 5));
        });
        s.test("and a tolerance, 0 to 100, initially 5", () -> {
            duePredecessor("5 levels", pair(1, 50, 55), true);
            duePredecessor("6 levels", pair(1, 50, 56), false);
            s.accepted("setHops(10, 0)", FRESH, x -> x.setHops(10, 0), 10);
            s.accepted("setHops(10, 100)", FRESH, x -> x.setHops(10, 100), 10);
            s.refusedArgument("setHops(10, -1)", BUSY, x -> x.setHops(10, -1));
            s.refusedArgument("setHops(10, 101)", BUSY, x -> x.setHops(10, 101));
        });
        s.test("Each event can have a predecessor and a successor.", () -> {
            OccupancyMonitor x = all();
            Sentences.hit(x, 0, 50, 1);
            Sentences.hit(x, 1, 50, 1);
            Sentences.hit(x, 2, 50, 1);
            s.dueEvents("three hops", x, "0 1 1 50 0 -1 0; 1 2 2 50 0 0 0; 2 3 3 50 1 1 0;");
        });
        s.test("The events are gone through in ascending order of their numbers", this::ascendingOrder);
        s.test("that are closed", this::closedAlone);
        s.test("are in another channel", () -> {
            OccupancyMonitor x = all();
            Sentences.hit(x, 0, 50, 1);
            x.run(1);
            Sentences.hit(x, 0, 50, 1);
            s.dueEvents("the same channel", x, "0 1 1 50 0 -1 0; 0 3 3 50 1 -1 1;");
            OccupancyMonitor y = all();
            Sentences.hit(y, 31, 50, 1);
            x.run(1);
            Sentences.hit(y, 0, 50, 1);
            s.dueEvents("another channel", y, "31 1 1 50 0 -1 0; 0 2 2 50 1 0 0;");
        });
        s.test("have no successor yet", this::oneSuccessor);
        s.test("end before b starts and not more than the gap before it (start of b - end of a is 1 to gap)",
                this::gaps);
        s.test("whose peak differs from that of b by the tolerance at most", this::tolerances);
        s.test("the one with the greatest end", () -> {
            OccupancyMonitor x = all();
            pulse(x, 0, 60, 1, 6);
            pulse(x, 1, 60, 2, 4);
            pulse(x, 2, 60, 9, 1);
            x.run(12);
            s.dueEvents("ends 6 and 5", x, "0 1 6 60 0 -1 0; 1 2 5 60 0 -1 1; 2 9 9 60 0 0 0;");
        });
        s.test("of several the one with the highest number", () -> {
            OccupancyMonitor x = all();
            pulse(x, 3, 60, 1, 4);
            pulse(x, 1, 60, 2, 3);
            pulse(x, 7, 60, 3, 1);
            pulse(x, 2, 60, 9, 1);
            x.run(12);
            s.dueEvents("ends 4, 4 and 3", x,
                    "3 1 4 60 0 -1 0; 1 2 4 60 0 -1 1; 7 3 3 60 0 -1 2; 2 9 9 60 0 1 1;");
        });
        s.test("A chain consists of events each of which is the predecessor of the next one; each event belongs to"
                + " exactly one chain (perhaps alone).", this::twoChains);
        s.test("Chains are found from the events that are kept.", this::keptEvents);
    }

    /** Both later events fit; the one with the lower number takes the better predecessor. */
    private void ascendingOrder() {
        OccupancyMonitor x = all();
        pulse(x, 0, 60, 1, 2);
        pulse(x, 1, 60, 1, 1);
        pulse(x, 2, 60, 4, 1);
        pulse(x, 3, 60, 4, 1);
        x.run(6);
        s.dueEvents("two and two", x, "0 1 2 60 0 -1 0; 1 1 1 60 0 -1 1; 2 4 4 60 0 0 0; 3 4 4 60 0 1 1;");
    }

    /** Channel 0 is not observed at ticks 3 and 4, so that its event stays open though it ended before. */
    private void closedAlone() {
        OccupancyMonitor x = Checks.withPlan("0:2;1:2;");
        pulse(x, 0, 60, 2, 1);
        pulse(x, 1, 60, 3, 1);
        x.run(4);
        s.dueEvents("still open", x, "0 2 2 60 1 -1 0; 1 3 3 60 0 -1 1;");
        x.run(1);
        s.dueEvents("closed", x, "0 2 2 60 0 -1 0; 1 3 3 60 0 0 0;");
    }

    private void oneSuccessor() {
        OccupancyMonitor x = all();
        pulse(x, 0, 60, 1, 2);
        pulse(x, 2, 60, 4, 1);
        pulse(x, 3, 60, 4, 1);
        x.run(6);
        s.dueEvents("one and two", x, "0 1 2 60 0 -1 0; 2 4 4 60 0 0 0; 3 4 4 60 0 -1 2;");
        OccupancyMonitor y = all();
        pulse(y, 0, 60, 1, 2);
        pulse(y, 2, 60, 4, 1);
        pulse(y, 3, 60, 5, 1);
        y.run(7);
        s.dueEvents("one after another", y, "0 1 2 60 0 -1 0; 2 4 4 60 0 0 0; 3 5 5 60 0 1 0;");
    }

    private void dueGap(int gap, int ticks, boolean want) {
        OccupancyMonitor x = pair(ticks, 50, 50);
        x.setHops(gap, 5);
        duePredecessor("gap " + gap + ", " + ticks + " ticks", x, want);
    }

    private void gaps() {
        dueGap(10, 0, false);
        dueGap(10, 1, true);
        dueGap(10, 9, true);
        dueGap(10, 10, true);
        dueGap(10, 11, false);
        dueGap(1, 0, false);
        dueGap(1, 1, true);
        dueGap(1, 2, false);
        dueGap(999, 1000, false);
        dueGap(1000, 1000, true);
        dueGap(1000, 1001, false);
        // The end of the first event counts, not its start: it lasts from tick 1 to 5.
        OccupancyMonitor x = all();
        pulse(x, 0, 50, 1, 5);
        pulse(x, 1, 50, 5, 1);
        pulse(x, 2, 50, 15, 1);
        pulse(x, 3, 50, 26, 1);
        x.run(30);
        s.dueEvents("a longer event", x,
                "0 1 5 50 0 -1 0; 1 5 5 50 0 -1 1; 2 15 15 50 0 1 1; 3 26 26 50 0 -1 3;");
    }

    private void dueTolerance(int tolerance, int peak, int nextPeak, boolean want) {
        OccupancyMonitor x = pair(2, peak, nextPeak);
        x.setHops(10, tolerance);
        duePredecessor("tolerance " + tolerance + ", peaks " + peak + " and " + nextPeak, x, want);
    }

    private void tolerances() {
        dueTolerance(5, 50, 55, true);
        dueTolerance(5, 50, 56, false);
        dueTolerance(5, 55, 50, true);
        dueTolerance(5, 56, 50, false);
        dueTolerance(0, 50, 50, true);
        dueTolerance(0, 50, 51, false);
        dueTolerance(0, 51, 50, false);
        dueTolerance(98, 1, 100, false);
        dueTolerance(99, 1, 100, true);
        dueTolerance(99, 100, 1, true);
        dueTolerance(100, 100, 1, true);
    }

    /** A chain of three events in channels 0, 1 and 2, one of two in 10 and 11, and an event alone. */
    private static OccupancyMonitor chained() {
        OccupancyMonitor x = all();
        pulse(x, 0, 60, 1, 2);
        pulse(x, 10, 90, 2, 1);
        pulse(x, 1, 62, 4, 1);
        pulse(x, 30, 40, 5, 1);
        pulse(x, 11, 90, 6, 1);
        pulse(x, 2, 64, 9, 1);
        x.run(12);
        return x;
    }

    private void twoChains() {
        s.dueEvents("three chains", chained(), "0 1 2 60 0 -1 0; 10 2 2 90 0 -1 1; 1 4 4 62 0 0 0; "
                + "30 5 5 40 0 -1 3; 11 6 6 90 0 1 1; 2 9 9 64 0 2 0;");
        s.due("chains()", chained().chains(), 3);
        int[] lengths = {3, 2, 3, 1, 2, 3};
        for (int event = 0; event < lengths.length; event++) {
            s.due("chainLength(" + event + ")", chained().chainLength(event), lengths[event]);
        }
    }

    /** Hops of a signal of one tick each; they would be one chain of 51 events. */
    private void keptEvents() {
        OccupancyMonitor x = all();
        x.addHopping(0, 1, 1, 70, 1);
        x.run(50);
        s.due("event(0, 1) of 50", x.event(0, 1), 1);
        s.due("event(1, 5) of 50", x.event(1, 5), 0);
        x.run(1);
        s.due("event(0, 1) of 51", x.event(0, 1), 2);
        s.due("event(0, 5) of 51", x.event(0, 5), -1);
        s.due("event(0, 6) of 51", x.event(0, 6), 0);
        s.due("event(49, 5) of 51", x.event(49, 5), 48);
        s.due("event(49, 6) of 51", x.event(49, 6), 0);
        s.due("chainLength(49) of 51", x.chainLength(49), 50);
        s.due("chains() of 51", x.chains(), 1);
        s.dueDouble("hopInterval(49) of 51", x.hopInterval(49), 1.0);
        x.setHops(10, 0);
        s.due("chains() with another tolerance", x.chains(), 1);
        x.reset();
        s.due("chains() of none", x.chains(), 0);
    }

    // ---- Promise 22

    private void eventCount() {
        s.at("Promise 22");
        s.test("Returns the number of events that are kept.", () -> {
            s.due("one open event", observed(40).events(), 1);
            s.due("one closed event", observed(40, 30).events(), 1);
            s.due("two events", observed(40, 30, 40).events(), 2);
            s.unchanged("events()", BUSY, x -> x.events());
        });
        s.test("Returns the number of events, 0 to 50.", () -> {
            s.accepted("events() of a new object", FRESH, x -> x.events(), 0);
            s.due("events() of 49", pulsing(99).events(), 49);
            s.due("events() of 50", pulsing(100).events(), 50);
            s.due("events() of 51", pulsing(102).events(), 50);
        });
    }

    // ---- Promise 23

    private void event() {
        s.at("Promise 23");
        s.test("Describes an event.", () -> s.unchanged("event(0, 6)", BUSY, x -> x.event(0, 6)));
        s.test("`event`: number of the event", () -> {
            s.accepted("event(0, 1) of 50", FIFTY, x -> x.event(0, 1), 2);
            s.accepted("event(49, 1) of 50", FIFTY, x -> x.event(49, 1), 100);
            s.refusedIndex("event(-1, 1) of 50", FIFTY, x -> x.event(-1, 1));
            s.refusedIndex("event(50, 1) of 50", FIFTY, x -> x.event(50, 1));
        });
        s.test("`what`: 0 its channel, 1 its start, 2 its end, 3 its peak, 4 1 if it is open, 0 if it is closed, 5 the"
                + " number of its predecessor (NONE if it has none), 6 the number of the first event of its chain",
                () -> {
                    OccupancyMonitor x = all();
                    pulse(x, 9, 60, 2, 3);
                    pulse(x, 4, 63, 6, 4);
                    x.run(8);
                    int[][] want = {{9, 2, 4, 60, 0, -1, 0}, {4, 6, 8, 63, 1, 0, 0}};
                    for (int what = 0; what <= 6; what++) {
                        s.due("event(0, " + what + ")", x.event(0, what), want[0][what]);
                        s.due("event(1, " + what + ")", x.event(1, what), want[1][what]);
                    }
                    s.refusedArgument("event(0, -1)", BUSY, y -> y.event(0, -1));
                    s.refusedArgument("event(0, 7)", BUSY, y -> y.event(0, 7));
                });
        s.test("Returns that value.", () -> {
            OccupancyMonitor x = observed(0);
            x.setLevels(1, 0);
            x.run(1);
            s.dueEvents("the least peak", x, "0 2 2 1 1 -1 0;");
            s.dueEvents("the greatest peak", observed(100), "0 1 1 100 1 -1 0;");
        });
        s.test("Throws `IndexOutOfBoundsException` if there is no such event", () -> {
            s.refusedIndex("event(0, 0) of none", FRESH, x -> x.event(0, 0));
            Sentences.Setup one = () -> observed(40);
            s.accepted("event(0, 3) of one", one, x -> x.event(0, 3), 40);
            for (int wrong : new int[] {LEAST, -1, 1, 49, 50, GREATEST}) {
                s.refusedIndex("event(" + wrong + ", 0) of one", one, x -> x.event(wrong, 0));
                s.refusedIndex("event(" + wrong + ", 7) of one", one, x -> x.event(wrong, 7));
            }
        });
        s.test("Throws `IllegalArgumentException` if what is out of range", () -> {
            for (int wrong : new int[] {LEAST, -1, 7, GREATEST}) {
                s.refusedArgument("event(0, " + wrong + ")", BUSY, x -> x.event(0, wrong));
                s.refusedArgument("event(49, " + wrong + ") of 50", FIFTY, x -> x.event(49, wrong));
            }
        });
    }

    // ---- Promises 24 to 26

    private void chainLength() {
        s.at("Promise 24");
        s.test("Returns the length of the chain of an event.", () -> {
            s.accepted("chainLength(0)", EventSentences::chained, x -> x.chainLength(0), 3);
            s.unchanged("chainLength(0)", BUSY, x -> x.chainLength(0));
        });
        s.test("`event`: number of an event", () -> {
            s.accepted("chainLength(0) of 50", FIFTY, x -> x.chainLength(0), 1);
            s.accepted("chainLength(49) of 50", FIFTY, x -> x.chainLength(49), 1);
            s.refusedIndex("chainLength(-1) of 50", FIFTY, x -> x.chainLength(-1));
            s.refusedIndex("chainLength(50) of 50", FIFTY, x -> x.chainLength(50));
        });
        s.test("Returns the number of events of the chain that it belongs to.", () -> {
            s.due("alone", observed(40).chainLength(0), 1);
            s.accepted("the first of three", EventSentences::chained, x -> x.chainLength(0), 3);
            s.accepted("the middle of three", EventSentences::chained, x -> x.chainLength(2), 3);
            s.accepted("the last of three", EventSentences::chained, x -> x.chainLength(5), 3);
            s.accepted("the first of two", EventSentences::chained, x -> x.chainLength(1), 2);
            s.accepted("the last of two", EventSentences::chained, x -> x.chainLength(4), 2);
            OccupancyMonitor x = all();
            x.addHopping(0, 1, 1, 70, 0);
            x.run(50);
            s.due("the first of 50", x.chainLength(0), 50);
            s.due("the last of 50", x.chainLength(49), 50);
        });
        s.test("Throws `IndexOutOfBoundsException` if there is no such event", () -> {
            s.refusedIndex("chainLength(0) of none", FRESH, x -> x.chainLength(0));
            for (int wrong : new int[] {LEAST, -1, 1, 50, GREATEST}) {
                s.refusedIndex("chainLength(" + wrong + ") of one", () -> observed(40), x -> x.chainLength(wrong));
            }
        });
    }

    private void chains() {
        s.at("Promise 25");
        s.test("Returns the number of chains.", () -> {
            s.accepted("chains() of none", FRESH, x -> x.chains(), 0);
            s.accepted("chains() of three", EventSentences::chained, x -> x.chains(), 3);
            s.unchanged("chains()", BUSY, x -> x.chains());
        });
        s.test("Returns the number of chains, those of a single event included.", () -> {
            s.due("chains() of one event", observed(40).chains(), 1);
            s.accepted("chains() of 50 single events", FIFTY, x -> x.chains(), 50);
            OccupancyMonitor x = all();
            x.addHopping(0, 1, 1, 70, 0);
            x.run(50);
            s.due("chains() of 50 events in one", x.chains(), 1);
        });
    }

    private void hopInterval() {
        s.at("Promise 26");
        s.test("Estimates the hop interval of the chain of an event.", () -> {
            s.dueDouble("hopInterval(1)", chained().hopInterval(1), 4.0);
            s.unchanged("hopInterval(0)", BUSY, x -> x.hopInterval(0));
        });
        s.test("`event`: number of an event", () -> {
            s.dueDouble("hopInterval(0) of 50", FIFTY.make().hopInterval(0), 0.0);
            s.dueDouble("hopInterval(49) of 50", FIFTY.make().hopInterval(49), 0.0);
            s.refusedIndex("hopInterval(-1) of 50", FIFTY, x -> (long) x.hopInterval(-1));
            s.refusedIndex("hopInterval(50) of 50", FIFTY, x -> (long) x.hopInterval(50));
        });
        s.test("Returns (start of the last event of the chain - start of its first event), converted to double, divided"
                + " by (the length of the chain - 1), converted to double", () -> {
            for (int event : new int[] {0, 2, 5}) {
                s.dueDouble("hopInterval(" + event + ")", chained().hopInterval(event), 4.0);
            }
            OccupancyMonitor x = all();
            pulse(x, 0, 70, 1, 2);
            pulse(x, 1, 70, 3, 1);
            pulse(x, 2, 70, 8, 1);
            pulse(x, 3, 70, 12, 5);
            x.run(20);
            for (int event = 0; event < 4; event++) {
                s.dueDouble("hopInterval(" + event + ") of uneven hops", x.hopInterval(event), 11.0 / 3.0);
            }
            s.dueDouble("hopInterval(1) of two", pair(7, 50, 50).hopInterval(1), 7.0);
            s.dueDouble("hopInterval(0) of two", pair(1, 50, 50).hopInterval(0), 1.0);
        });
        s.test("0.0 if the chain has only one event", () -> {
            s.dueDouble("an event alone", observed(0, 0, 40, 40, 0).hopInterval(0), 0.0);
            s.dueDouble("an event beside chains", chained().hopInterval(3), 0.0);
        });
        s.test("Throws `IndexOutOfBoundsException` if there is no such event", () -> {
            s.refusedIndex("hopInterval(0) of none", FRESH, x -> (long) x.hopInterval(0));
            for (int wrong : new int[] {LEAST, -1, 1, 50, GREATEST}) {
                s.refusedIndex("hopInterval(" + wrong + ") of one", () -> observed(40),
                        x -> (long) x.hopInterval(wrong));
            }
        });
    }
}
