/** The sentences of "Detectors" and of promises 18 to 21. */
final class DetectorSentences {
    private static final int LEAST = Integer.MIN_VALUE;
    private static final int GREATEST = Integer.MAX_VALUE;
    private static final Sentences.Setup FRESH = Sentences.FRESH;
    private static final Sentences.Setup BUSY = Sentences.BUSY;
    private static final Sentences.Setup ROOMY = Sentences.ROOMY;

    private final Sentences s;

    DetectorSentences(Sentences sentences) {
        s = sentences;
    }

    void test() {
        detectors();
        detector();
        average();
        occupancy();
        reset();
    }

    /** Channel 0 is observed with these levels, one after another. */
    private static void observe(OccupancyMonitor x, int... levels) {
        for (int level : levels) {
            x.setLevels(level, 30);
            x.run(1);
        }
    }

    private static OccupancyMonitor observed(int... levels) {
        OccupancyMonitor x = Checks.withPlan("0:1;");
        observe(x, levels);
        return x;
    }

    /** Channel 0 is observed once. */
    private static OccupancyMonitor once(int level, int threshold, int mask) {
        OccupancyMonitor x = Checks.withPlan("0:1;");
        x.setLevels(level, threshold);
        x.setMask(0, 0, mask);
        x.run(1);
        return x;
    }

    private void dueDetectors(String call, OccupancyMonitor x, int channel, int... want) {
        for (int what = 0; what < want.length; what++) {
            s.due(call + ": detector(" + channel + ", " + what + ")", x.detector(channel, what), want[what]);
        }
    }

    // ---- Description

    private void detectors() {
        s.at("Detectors");
        s.test("For each channel there are: the number of observations", () -> {
            OccupancyMonitor x = Checks.withPlan("0-30:1;1-31:1;");
            s.due("of channel 0 before tick 1", x.detector(0, 0), 0);
            x.run(3);
            s.due("of channel 0", x.detector(0, 0), 2);
            s.due("of channel 1", x.detector(1, 0), 3);
            s.due("of channel 31", x.detector(31, 0), 1);
        });
        s.test("the number of hits, observations with a level above the threshold", () -> {
            s.due("level 50, threshold 49", once(50, 49, 100).detector(0, 1), 1);
            s.due("level 50, threshold 50", once(50, 50, 100).detector(0, 1), 0);
            s.due("level 50, threshold 51", once(50, 51, 100).detector(0, 1), 0);
            s.due("level 0, threshold 0", once(0, 0, 100).detector(0, 1), 0);
            s.due("level 1, threshold 0", once(1, 0, 100).detector(0, 1), 1);
            s.due("level 100, threshold 99", once(100, 99, 100).detector(0, 1), 1);
            s.due("level 100, threshold 100", once(100, 100, 100).detector(0, 1), 0);
        });
        s.test("(a level, initially 30)", () -> {
            OccupancyMonitor x = Checks.withPlan("0-1:1;");
            x.addPulsed(0, 30, 0, 1, 1);
            x.addPulsed(1, 31, 0, 1, 1);
            x.run(1);
            s.due("hits of level 30", x.detector(0, 1), 0);
            s.due("hits of level 31", x.detector(1, 1), 1);
        });
        s.test("the peak, the greatest observed level (NONE without observations)", () -> {
            s.accepted("without observations", FRESH, x -> x.detector(0, 2), -1);
            s.due("of 0", observed(0).detector(0, 2), 0);
            s.due("of 0 and 1", observed(0, 1).detector(0, 2), 1);
            s.due("of 20, 21, 20", observed(20, 21, 20).detector(0, 2), 21);
            s.due("of 20, 20", observed(20, 20).detector(0, 2), 20);
            s.due("of 100, 0", observed(100, 0).detector(0, 2), 100);
            s.due("of more than 8", observed(90, 1, 2, 3, 4, 5, 6, 7, 8, 9, 10).detector(0, 2), 90);
        });
        s.test("the latest 8 observed levels", () -> {
            s.due("average of 8", observed(80, 0, 0, 0, 0, 0, 0, 0).average(0), 10);
            s.due("average of 9", observed(80, 0, 0, 0, 0, 0, 0, 0, 0).average(0), 0);
            s.due("average of 9", observed(99, 80, 0, 0, 0, 0, 0, 0, 0).average(0), 10);
            s.due("average of 17", observed(99, 99, 99, 99, 99, 99, 99, 99, 99, 8, 8, 8, 8, 8, 8, 8, 16).average(0), 9);
        });
        s.test("the number of violations, observations with a level above the mask of the channel", () -> {
            s.due("level 50, mask 49", once(50, 30, 49).detector(0, 3), 1);
            s.due("level 50, mask 50", once(50, 30, 50).detector(0, 3), 0);
            s.due("level 50, mask 51", once(50, 30, 51).detector(0, 3), 0);
            s.due("level 0, mask 0", once(0, 30, 0).detector(0, 3), 0);
            s.due("level 1, mask 0", once(1, 30, 0).detector(0, 3), 1);
            s.due("level 100, mask 99", once(100, 30, 99).detector(0, 3), 1);
            s.due("level 100, mask 100", once(100, 30, 100).detector(0, 3), 0);
        });
        s.test("(a level, initially 100)", () -> {
            for (int channel : new int[] {0, 31}) {
                s.accepted("the mask of channel " + channel, FRESH, x -> x.setMask(channel, channel, 1), 100);
            }
            OccupancyMonitor x = Checks.withPlan("0:1;");
            x.setLevels(100, 30);
            x.run(1);
            s.due("violations of level 100", x.detector(0, 3), 0);
        });
    }

    // ---- Promise 18

    private void detector() {
        s.at("Promise 18");
        s.test("Returns a number of a detector of a channel.", () -> {
            dueDetectors("of busy", BUSY.make(), 31, 0, 0, -1, 0);
            s.unchanged("detector(3, 2)", BUSY, x -> x.detector(3, 2));
        });
        s.test("`channel`: 0 to 31", () -> {
            OccupancyMonitor x = Checks.withPlan("0:1;31:2;");
            x.run(3);
            s.due("detector(0, 0)", x.detector(0, 0), 1);
            s.due("detector(31, 0)", x.detector(31, 0), 2);
            s.refusedIndex("detector(-1, 0)", BUSY, y -> y.detector(-1, 0));
            s.refusedIndex("detector(32, 0)", BUSY, y -> y.detector(32, 0));
        });
        s.test("`what`: 0 the number of observations, 1 the number of hits, 2 the peak (NONE without observations),"
                + " 3 the number of violations", () -> {
            OccupancyMonitor x = Checks.withPlan("0-1:1;");
            dueDetectors("without observations", x, 0, 0, 0, -1, 0);
            x.setMask(0, 0, 59);
            observe(x, 40, 60, 10, 50);
            dueDetectors("of 40, 60, 10, 50", x, 0, 4, 3, 60, 1);
            dueDetectors("of 40, 60, 10, 50", x, 1, 4, 3, 60, 0);
            dueDetectors("without observations", x, 2, 0, 0, -1, 0);
            s.refusedArgument("detector(0, -1)", BUSY, y -> y.detector(0, -1));
            s.refusedArgument("detector(0, 4)", BUSY, y -> y.detector(0, 4));
        });
        s.test("Returns that number.", () -> dueDetectors("of 0", observed(0), 0, 1, 0, 0, 0));
        s.test("Throws `IndexOutOfBoundsException` if there is no such channel", () -> {
            for (int wrong : new int[] {LEAST, -1, 32, GREATEST}) {
                s.refusedIndex("detector(" + wrong + ", 3)", BUSY, x -> x.detector(wrong, 3));
                s.refusedIndex("detector(" + wrong + ", 4)", BUSY, x -> x.detector(wrong, 4));
            }
        });
        s.test("Throws `IllegalArgumentException` if what is out of range", () -> {
            for (int wrong : new int[] {LEAST, -1, 4, GREATEST}) {
                s.refusedArgument("detector(31, " + wrong + ")", BUSY, x -> x.detector(31, wrong));
            }
        });
    }

    // ---- Promise 19

    private void average() {
        s.at("Promise 19");
        s.test("Returns the mean of the latest observed levels of a channel (of all, if there are fewer than 8).",
                this::averageOfLatest);
        s.test("`channel`: 0 to 31", () -> {
            OccupancyMonitor x = Checks.withPlan("0:1;31:1;");
            x.addPulsed(0, 60, 0, 1, 1);
            x.addPulsed(31, 70, 0, 1, 1);
            x.run(2);
            s.due("average(0)", x.average(0), 60);
            s.due("average(31)", x.average(31), 70);
            s.refusedIndex("average(-1)", BUSY, y -> y.average(-1));
            s.refusedIndex("average(32)", BUSY, y -> y.average(32));
        });
        s.test("Returns the mean, rounded down; NONE without observations.", () -> {
            s.accepted("without observations", FRESH, x -> x.average(0), -1);
            s.due("of a channel beside", observed(50).average(1), -1);
            s.due("of 0", observed(0).average(0), 0);
            s.due("of 100", observed(100, 100).average(0), 100);
            s.due("of 10, 11", observed(10, 11).average(0), 10);
            s.due("of 10, 11, 11", observed(10, 11, 11).average(0), 10);
            s.due("of 10, 11, 12", observed(10, 11, 12).average(0), 11);
            s.due("of seven 1 and a 0", observed(1, 1, 1, 1, 1, 1, 1, 0).average(0), 0);
            s.due("of eight 1", observed(1, 1, 1, 1, 1, 1, 1, 1).average(0), 1);
        });
        s.test("Throws `IndexOutOfBoundsException` if there is no such channel", () -> {
            for (int wrong : new int[] {LEAST, -1, 32, GREATEST}) {
                s.refusedIndex("average(" + wrong + ")", BUSY, x -> x.average(wrong));
            }
        });
    }

    private void averageOfLatest() {
        int[] want = {80, 40, 26, 20, 16, 13, 11, 10, 2, 2};
        OccupancyMonitor x = Checks.withPlan("0:1;");
        for (int count = 1; count <= want.length; count++) {
            observe(x, count == 1 ? 80 : count == 9 ? 16 : 0);
            s.due("average(0) of " + count, x.average(0), want[count - 1]);
        }
        s.unchanged("average(3)", BUSY, y -> y.average(3));
    }

    // ---- Promise 20

    private void occupancy() {
        s.at("Promise 20");
        s.test("Returns the occupancy of a channel.", () -> {
            s.dueDouble("of one hit in two", observed(50, 10).occupancy(0), 0.5);
            s.unchanged("occupancy(3)", BUSY, x -> x.occupancy(3));
        });
        s.test("`channel`: 0 to 31", () -> {
            OccupancyMonitor x = Checks.withPlan("0-31:1;");
            x.addPulsed(0, 60, 2, 1, 1);
            x.addPulsed(31, 70, 4, 1, 1);
            x.run(4);
            s.dueDouble("occupancy(0)", x.occupancy(0), 0.75);
            s.dueDouble("occupancy(31)", x.occupancy(31), 0.25);
            s.refusedIndex("occupancy(-1)", BUSY, y -> (long) y.occupancy(-1));
            s.refusedIndex("occupancy(32)", BUSY, y -> (long) y.occupancy(32));
        });
        s.test("Returns the number of hits, converted to double, divided by the number of observations, converted to"
                + " double; 0.0 without observations.", () -> {
            s.dueDouble("without observations", FRESH.make().occupancy(0), 0.0);
            s.dueDouble("of a channel beside", observed(50).occupancy(1), 0.0);
            s.dueDouble("of one observation, a hit", observed(31).occupancy(0), 1.0);
            s.dueDouble("of one observation, no hit", observed(30).occupancy(0), 0.0);
            s.dueDouble("without hits", observed(10, 30).occupancy(0), 0.0);
            s.dueDouble("of hits alone", observed(31, 100).occupancy(0), 1.0);
            s.dueDouble("of 1 in 3", observed(10, 31, 10).occupancy(0), 1.0 / 3.0);
            s.dueDouble("of 2 in 3", observed(31, 31, 10).occupancy(0), 2.0 / 3.0);
            OccupancyMonitor x = observed(50);
            x.setLevels(10, 30);
            x.run(2000);
            s.dueDouble("of 1 in 2001", x.occupancy(0), 1.0 / 2001.0);
        });
        s.test("Throws `IndexOutOfBoundsException` if there is no such channel", () -> {
            for (int wrong : new int[] {LEAST, -1, 32, GREATEST}) {
                s.refusedIndex("occupancy(" + wrong + ")", BUSY, x -> (long) x.occupancy(wrong));
            }
        });
    }

    // ---- Promise 21

    private void reset() {
        s.at("Promise 21");
        s.test("Clears the detectors of all channels and removes all events.", this::resetClears);
        s.test("Undoable.", () -> {
            s.saves("reset()", ROOMY, x -> x.reset());
            s.saves("reset() of a new object, which changes nothing", FRESH, x -> x.reset());
        });
        s.test("Returns the number of events that there were.", () -> {
            s.accepted("reset() of none", FRESH, x -> x.reset(), 0);
            OccupancyMonitor x = Checks.withPlan("0:1;");
            x.addPulsed(0, 50, 0, 1, 2);
            x.run(2);
            s.due("reset() of one", x.reset(), 1);
            s.due("reset() again", x.reset(), 0);
            x.run(2000);
            s.due("reset() of 50", x.reset(), 50);
        });
    }

    private void resetClears() {
        OccupancyMonitor x = Checks.withPlan("0-31:1;0:2;");
        x.setMask(0, 31, 35);
        x.setHops(20, 9);
        x.setLevels(40, 30);
        x.run(2);
        x.setLevels(40, 39);
        x.reset();
        for (int channel : new int[] {0, 1, 31}) {
            dueDetectors("after reset()", x, channel, 0, 0, -1, 0);
            s.due("average(" + channel + ")", x.average(channel), -1);
            s.dueDouble("occupancy(" + channel + ")", x.occupancy(channel), 0.0);
        }
        s.due("events()", x.events(), 0);
        s.due("chains()", x.chains(), 0);
        s.dueText("event(0, 0)", Sentences.attempt(x, y -> y.event(0, 0)), "IndexOutOfBoundsException");
        s.due("presentStep() stays", x.presentStep(), 1);
        s.due("level(0) stays", x.level(0), 40);
        s.due("run(1) goes on at tick 3", x.run(1), 3);
        // The open event went with the others, and the levels before reset() count no more.
        s.dueEvents("after one tick more", x, "0 3 3 40 1 -1 0;");
        s.due("presentStep() after one tick more", x.presentStep(), 0);
        dueDetectors("after one tick more", x, 0, 1, 1, 40, 1);
        x.setLevels(20, 39);
        x.run(1);
        s.due("average(0) of 40 and 20", x.average(0), 30);
        s.dueEvents("after a tick without a hit", x, "0 3 3 40 0 -1 0;");
        s.due("the threshold stays", x.setLevels(20, 39), 39);
        s.due("the mask stays", x.setMask(0, 0, 35), 35);
        s.due("the gap stays", x.setHops(20, 9), 20);
    }
}
