/** The sentences of "Time" and of promises 15 to 17. */
final class TimeSentences {
    private static final int LEAST = Integer.MIN_VALUE;
    private static final int GREATEST = Integer.MAX_VALUE;
    private static final Sentences.Setup FRESH = Sentences.FRESH;
    private static final Sentences.Setup BUSY = Sentences.BUSY;
    private static final Sentences.Setup ROOMY = Sentences.ROOMY;

    private final Sentences s;

    TimeSentences(Sentences sentences) {
        s = sentences;
    }

    void test() {
        time();
        run();
        presentStep();
        level();
    }

    private void time() {
        s.at("Time");
        s.test("The present tick is initially 0.", () -> {
            s.accepted("run(0)", FRESH, x -> x.run(0), 0);
            OccupancyMonitor x = new OccupancyMonitor();
            x.addPulsed(0, 50, 0, 1, 1000);
            s.due("level(0) of a pulse at tick 0", x.level(0), 50);
        });
        s.test("When a tick passes, the present tick increases by 1", () -> {
            OccupancyMonitor x = Checks.withPlan("0:1;");
            s.due("run(1)", x.run(1), 1);
            s.due("run(1)", x.run(1), 2);
            s.accepted("run(1) without steps", FRESH, y -> y.run(1), 1);
        });
        s.test("the channels of the present step are observed with their levels at this tick", () -> {
            OccupancyMonitor x = Checks.withPlan("0-1:1;");
            x.addPulsed(0, 50, 0, 1, 1000);
            x.addPulsed(1, 60, 1, 1, 1000);
            x.run(1);
            s.due("the peak of a pulse at tick 0", x.detector(0, 2), 10);
            s.due("the peak of a pulse at tick 1", x.detector(1, 2), 60);
            s.dueEvents("after tick 1", x, "1 1 1 60 1 -1 0;");
        });
        s.test("and then one tick of the dwell of the step is over (after the last one the next step is the present"
                + " one)", () -> {
            OccupancyMonitor x = Checks.withPlan("0:2;1:1;");
            x.addHopping(0, 31, 2, 50, 1);
            // Channel 0 is on at ticks 1 and 2, and is observed at both; tick 3 is of the next step.
            x.run(1);
            s.due("presentStep() after tick 1", x.presentStep(), 0);
            x.run(1);
            s.due("presentStep() after tick 2", x.presentStep(), 1);
            s.due("hits of channel 0 after tick 2", x.detector(0, 1), 2);
            s.due("observations of channel 1 after tick 2", x.detector(1, 0), 0);
            x.run(1);
            s.due("presentStep() after tick 3", x.presentStep(), 0);
            s.due("observations of channel 0 after tick 3", x.detector(0, 0), 2);
            s.due("observations of channel 1 after tick 3", x.detector(1, 0), 1);
        });
    }

    private void run() {
        s.at("Promise 15");
        s.test("Lets ticks pass.", () -> {
            OccupancyMonitor x = BUSY.make();
            OccupancyMonitor y = BUSY.make();
            x.run(9);
            for (int tick = 0; tick < 9; tick++) {
                y.run(1);
            }
            s.due("digest() after run(9), and after run(1) nine times", x.digest(), y.digest());
        });
        s.test("Undoable.", () -> {
            s.saves("run(30)", ROOMY, x -> x.run(30));
            s.saves("run(0), which changes nothing", ROOMY, x -> x.run(0));
            s.saves("run(2000) without steps", FRESH, x -> x.run(2000));
        });
        s.test("`ticks`: 0 to 2000", () -> {
            s.accepted("run(0)", BUSY, x -> x.run(0), 39);
            s.accepted("run(2000)", BUSY, x -> x.run(2000), 2039);
            OccupancyMonitor x = Checks.withPlan("0:1;");
            x.run(0);
            s.due("observations after run(0)", x.detector(0, 0), 0);
            x.run(2000);
            s.due("observations after run(2000)", x.detector(0, 0), 2000);
            s.refusedArgument("run(-1)", BUSY, y -> y.run(-1));
            s.refusedArgument("run(2001)", BUSY, y -> y.run(2001));
        });
        s.test("Returns the present tick afterwards.", () -> {
            OccupancyMonitor x = new OccupancyMonitor();
            s.due("run(2000)", x.run(2000), 2000);
            s.due("run(0)", x.run(0), 2000);
            s.due("run(1)", x.run(1), 2001);
            x.undo();
            s.due("run(5) after undo", x.run(5), 2005);
        });
        s.test("Throws `IllegalArgumentException` if ticks is out of range", () -> {
            for (int wrong : new int[] {LEAST, -1, 2001, GREATEST}) {
                s.refusedArgument("run(" + wrong + ")", BUSY, x -> x.run(wrong));
                s.refusedArgument("run(" + wrong + ") of a new object", FRESH, x -> x.run(wrong));
            }
        });
    }

    private void presentStep() {
        s.at("Promise 16");
        s.test("Returns the step that will be observed at the next tick.", () -> {
            OccupancyMonitor x = Checks.withPlan("0:2;1:1;2:3;");
            int[] want = {0, 0, 1, 2, 2, 2, 0, 0, 1};
            for (int tick = 0; tick < want.length; tick++) {
                int step = x.presentStep();
                int before = x.detector(step, 0);
                s.due("presentStep() at tick " + tick, step, want[tick]);
                x.run(1);
                s.due("observations of the step's channel", x.detector(step, 0), before + 1);
            }
            s.unchanged("presentStep()", BUSY, y -> y.presentStep());
        });
        s.test("Returns the number of the step; NONE if the plan has no steps.", () -> {
            s.accepted("presentStep() of a new object", FRESH, x -> x.presentStep(), -1);
            s.accepted("presentStep() of one step", () -> Checks.withPlan("1:1;"), x -> x.presentStep(), 0);
            OccupancyMonitor x = Checks.withPlan("1:1;".repeat(12));
            x.run(11);
            s.due("presentStep() of the twelfth step", x.presentStep(), 11);
            Checks.parse(x, "");
            s.due("presentStep() of an emptied plan", x.presentStep(), -1);
            x.run(1);
            s.due("presentStep() of an emptied plan, later", x.presentStep(), -1);
            x.undo();
            x.undo();
            s.due("presentStep() after undo", x.presentStep(), 11);
        });
    }

    private void level() {
        s.at("Promise 17");
        s.test("Returns the level of a channel at the present tick, observed or not.", () -> {
            OccupancyMonitor x = Checks.withPlan("7:1;");
            x.addPulsed(0, 60, 0, 1, 2);
            x.addPulsed(7, 70, 0, 1, 2);
            s.due("level(0) at tick 0", x.level(0), 60);
            s.due("level(7) at tick 0", x.level(7), 70);
            x.run(1);
            s.due("level(0) at tick 1", x.level(0), 10);
            s.due("level(7) at tick 1", x.level(7), 10);
            x.run(1);
            s.due("level(0) at tick 2", x.level(0), 60);
            s.due("level(7) at tick 2", x.level(7), 70);
            s.due("observations of channel 0", x.detector(0, 0), 0);
            s.unchanged("level(3)", BUSY, y -> y.level(3));
        });
        s.test("`channel`: 0 to 31", () -> {
            OccupancyMonitor x = new OccupancyMonitor();
            x.addPulsed(0, 60, 0, 1, 1);
            x.addPulsed(31, 70, 0, 1, 1);
            s.due("level(0)", x.level(0), 60);
            s.due("level(31)", x.level(31), 70);
            s.refusedIndex("level(-1)", BUSY, y -> y.level(-1));
            s.refusedIndex("level(32)", BUSY, y -> y.level(32));
        });
        s.test("Returns the level.", () -> {
            OccupancyMonitor x = new OccupancyMonitor();
            x.setLevels(0, 30);
            s.due("level(5), the least one", x.level(5), 0);
            x.addPulsed(5, 100, 0, 1, 1);
            s.due("level(5), the greatest one", x.level(5), 100);
        });
        s.test("Throws `IndexOutOfBoundsException` if there is no such channel", () -> {
            for (int wrong : new int[] {LEAST, -1, 32, GREATEST}) {
                s.refusedIndex("level(" + wrong + ")", BUSY, x -> x.level(wrong));
            }
        });
    }
}
