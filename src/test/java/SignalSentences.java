/** The sentences of "Channels and signals" and of promises 1 to 7. */
final class SignalSentences {
    private static final int LEAST = Integer.MIN_VALUE;
    private static final int GREATEST = Integer.MAX_VALUE;
    private static final Sentences.Setup FRESH = Sentences.FRESH;
    private static final Sentences.Setup BUSY = Sentences.BUSY;
    private static final Sentences.Setup ROOMY = Sentences.ROOMY;
    private static final Sentences.Setup TEN = SignalSentences::tenSignals;

    private final Sentences s;

    SignalSentences(Sentences sentences) {
        s = sentences;
    }

    void test() {
        channelsAndSignals();
        newObject();
        addPulsed();
        addHopping();
        removeSignal();
        setLevels();
        setMask();
        setHops();
    }

    private static OccupancyMonitor tenSignals() {
        OccupancyMonitor x = Checks.withPlan("0-9:3;");
        for (int signal = 0; signal < 5; signal++) {
            x.addPulsed(signal, 40 + signal, 0, 1, 2);
            x.addHopping(signal + 10, 1, 1000, 50 + signal, 0);
        }
        x.run(4);
        return x;
    }

    private void dueRaised(String call, OccupancyMonitor x, String want) {
        s.dueText(call + ": channels above the floor", Checks.raised(x, 10), want);
    }

    /** The channels above the floor at some ticks, which ascend. */
    private void dueRaisedAt(OccupancyMonitor x, int[] ticks, String... want) {
        for (int index = 0; index < ticks.length; index++) {
            Sentences.runTo(x, ticks[index]);
            dueRaised("at tick " + ticks[index], x, want[index]);
        }
    }

    private static int[] at(int... ticks) {
        return ticks;
    }

    private static OccupancyMonitor pulsed(int channel, int level, int start, int on, int period) {
        OccupancyMonitor x = new OccupancyMonitor();
        x.addPulsed(channel, level, start, on, period);
        return x;
    }

    private static OccupancyMonitor hopping(int first, int step, int hold, int level, int start) {
        OccupancyMonitor x = new OccupancyMonitor();
        x.addHopping(first, step, hold, level, start);
        return x;
    }

    // ---- Description

    private void channelsAndSignals() {
        s.at("Channels and signals");
        s.test("There are 32 channels, numbered from 0.", this::thirtyTwoChannels);
        s.test("Levels are whole numbers from 0 to 100.", this::levels);
        s.test("There is a noise floor, a level, initially 10.", () -> {
            OccupancyMonitor x = Checks.withPlan("0-31:1;");
            dueRaised("new object", x, "");
            x.run(1);
            s.due("detector(0, 2)", x.detector(0, 2), 10);
            s.due("detector(31, 2)", x.detector(31, 2), 10);
        });
        s.test("There are at most 10 signals, numbered from 0.", this::tenNumbers);
        s.test("A pulsed signal has a channel, a level, a start tick, a number of ticks on, and a period",
                () -> dueRaisedAt(pulsed(7, 91, 4, 2, 5), at(3, 4, 5, 6, 8, 9, 10, 11), "", "7=91", "7=91", "", "",
                        "7=91", "7=91", ""));
        s.test("at tick t it is active if t is at least its start", this::pulsedStart);
        s.test("(t - start) modulo period is less than its ticks on", this::pulsedPeriod);
        s.test("A hopping signal has a first channel, a step, a hold time, a level and a start tick",
                () -> dueRaisedAt(hopping(7, 3, 2, 91, 4), at(3, 4, 5, 6, 7, 8), "", "7=91", "7=91", "10=91",
                        "10=91", "13=91"));
        s.test("at each tick t from its start on it is active", this::hoppingStart);
        s.test("((t - start) / hold, rounded down)", this::hoppingHold);
        s.test("modulo 32", this::hoppingWrap);
        s.test("The level of a channel at a tick is the greatest one of the noise floor and of the levels of all"
                + " signals that are active in it then.", this::greatestLevel);
    }

    private void thirtyTwoChannels() {
        for (int channel : new int[] {0, 31}) {
            String call = "(" + channel + ", ..)";
            s.accepted("level" + call, FRESH, x -> x.level(channel), 10);
            s.accepted("revisit" + call, FRESH, x -> x.revisit(channel), -1);
            s.accepted("detector" + call, FRESH, x -> x.detector(channel, 0), 0);
            s.accepted("average" + call, FRESH, x -> x.average(channel), -1);
            s.dueDouble("occupancy" + call, FRESH.make().occupancy(channel), 0.0);
            s.accepted("setMask" + call, FRESH, x -> x.setMask(channel, channel, 7), 100);
            dueRaised("addPulsed" + call, pulsed(channel, 50, 0, 1, 1), channel + "=50");
            dueRaised("addHopping" + call, hopping(channel, 1, 1, 50, 0), channel + "=50");
            s.due("plan text with channel " + channel, Checks.parse(FRESH.make(), channel + ":1;"), 1);
        }
        for (int channel : new int[] {-1, 32}) {
            String call = "(" + channel + ", ..)";
            s.refusedIndex("level" + call, BUSY, x -> x.level(channel));
            s.refusedIndex("revisit" + call, BUSY, x -> x.revisit(channel));
            s.refusedIndex("detector" + call, BUSY, x -> x.detector(channel, 0));
            s.refusedIndex("average" + call, BUSY, x -> x.average(channel));
            s.refusedIndex("occupancy" + call, BUSY, x -> (long) x.occupancy(channel));
            s.refusedIndex("setMask" + call, BUSY, x -> x.setMask(channel, channel, 7));
            s.refusedArgument("addPulsed" + call, BUSY, x -> x.addPulsed(channel, 50, 0, 1, 1));
            s.refusedArgument("addHopping" + call, BUSY, x -> x.addHopping(channel, 1, 1, 50, 0));
        }
        s.due("plan text with channel 32", Checks.parse(FRESH.make(), "32:1;"), -10);
    }

    private void levels() {
        for (int level : new int[] {0, 100}) {
            String call = "(.. " + level + " ..)";
            s.accepted("addPulsed" + call, FRESH, x -> x.addPulsed(0, level, 0, 1, 1), 0);
            s.accepted("addHopping" + call, FRESH, x -> x.addHopping(0, 1, 1, level, 0), 0);
            s.accepted("setLevels(" + level + ", 30)", FRESH, x -> x.setLevels(level, 30), 30);
            s.accepted("setLevels(10, " + level + ")", FRESH, x -> x.setLevels(10, level), 30);
            s.accepted("setMask" + call, FRESH, x -> x.setMask(0, 0, level), 100);
            OccupancyMonitor x = pulsed(5, level, 0, 1, 1);
            x.setLevels(0, 30);
            s.due("level(5) of a signal of level " + level, x.level(5), level);
            x.setLevels(level, 30);
            s.due("level(6) with the floor " + level, x.level(6), level);
        }
        for (int level : new int[] {-1, 101}) {
            String call = "(.. " + level + " ..)";
            s.refusedArgument("addPulsed" + call, BUSY, x -> x.addPulsed(0, level, 0, 1, 1));
            s.refusedArgument("addHopping" + call, BUSY, x -> x.addHopping(0, 1, 1, level, 0));
            s.refusedArgument("setLevels(" + level + ", 30)", BUSY, x -> x.setLevels(level, 30));
            s.refusedArgument("setLevels(10, " + level + ")", BUSY, x -> x.setLevels(10, level));
            s.refusedArgument("setMask" + call, BUSY, x -> x.setMask(0, 0, level));
        }
    }

    private void tenNumbers() {
        OccupancyMonitor x = new OccupancyMonitor();
        for (int signal = 0; signal < 10; signal++) {
            s.due("addPulsed number " + signal, x.addPulsed(signal, 40, 0, 1, 1), signal);
        }
        dueRaised("ten signals", x, "0=40 1=40 2=40 3=40 4=40 5=40 6=40 7=40 8=40 9=40");
        OccupancyMonitor y = new OccupancyMonitor();
        for (int signal = 0; signal < 10; signal++) {
            s.due("addHopping number " + signal, y.addHopping(signal, 1, 1000, 40, 0), signal);
        }
        dueRaised("ten signals", y, "0=40 1=40 2=40 3=40 4=40 5=40 6=40 7=40 8=40 9=40");
        s.refusedState("an eleventh addPulsed", TEN, z -> z.addPulsed(0, 99, 0, 1, 1));
        s.refusedState("an eleventh addHopping", TEN, z -> z.addHopping(0, 1, 1, 99, 0));
    }

    private void pulsedStart() {
        dueRaisedAt(pulsed(1, 50, 0, 1, 1), at(0, 1), "1=50", "1=50");
        dueRaisedAt(pulsed(1, 50, 1, 1, 1), at(0, 1, 2), "", "1=50", "1=50");
        dueRaisedAt(pulsed(1, 50, 20, 3, 4), at(0, 16, 19, 20, 22, 23), "", "", "", "1=50", "1=50", "");
        dueRaisedAt(pulsed(1, 50, 100000, 1, 1000), at(99000, 99999, 100000, 100001), "", "", "1=50", "");
    }

    private void pulsedPeriod() {
        dueRaisedAt(pulsed(1, 50, 2, 3, 7), at(2, 4, 5, 8, 9, 11, 12, 16, 19), "1=50", "1=50", "", "", "1=50", "1=50",
                "", "1=50", "");
        dueRaisedAt(pulsed(1, 50, 0, 7, 7), at(0, 6, 7, 13, 14), "1=50", "1=50", "1=50", "1=50", "1=50");
        dueRaisedAt(pulsed(1, 50, 0, 6, 7), at(5, 6, 7, 12, 13, 14), "1=50", "", "1=50", "1=50", "", "1=50");
        dueRaisedAt(pulsed(1, 50, 0, 1, 2), at(0, 1, 2, 3), "1=50", "", "1=50", "");
        dueRaisedAt(pulsed(1, 50, 5, 999, 1000), at(5, 1003, 1004, 1005), "1=50", "1=50", "", "1=50");
        dueRaisedAt(pulsed(1, 50, 5, 1, 1000), at(5, 6, 1004, 1005, 1006), "1=50", "", "", "1=50", "");
    }

    private void hoppingStart() {
        dueRaisedAt(hopping(1, 1, 2, 50, 0), at(0, 1, 2), "1=50", "1=50", "2=50");
        dueRaisedAt(hopping(1, 1, 2, 50, 1), at(0, 1, 2, 3), "", "1=50", "1=50", "2=50");
        dueRaisedAt(hopping(1, 1, 2, 50, 20), at(0, 19, 20), "", "", "1=50");
        dueRaisedAt(hopping(1, 1, 1, 50, 100000), at(99999, 100000, 100001), "", "1=50", "2=50");
    }

    private void hoppingHold() {
        dueRaisedAt(hopping(0, 1, 1, 50, 0), at(0, 1, 2), "0=50", "1=50", "2=50");
        dueRaisedAt(hopping(0, 2, 3, 50, 1), at(1, 3, 4, 6, 7), "0=50", "0=50", "2=50", "2=50", "4=50");
        dueRaisedAt(hopping(0, 2, 1000, 50, 1), at(1, 1000, 1001, 2000, 2001), "0=50", "0=50", "2=50", "2=50",
                "4=50");
    }

    private void hoppingWrap() {
        dueRaisedAt(hopping(31, 1, 1, 50, 0), at(0, 1, 32, 33), "31=50", "0=50", "31=50", "0=50");
        dueRaisedAt(hopping(0, 31, 1, 50, 0), at(0, 1, 2, 31, 32), "0=50", "31=50", "30=50", "1=50", "0=50");
        dueRaisedAt(hopping(1, 16, 1, 50, 0), at(0, 1, 2), "1=50", "17=50", "1=50");
        dueRaisedAt(hopping(28, 3, 1, 50, 0), at(1, 2), "31=50", "2=50");
        dueRaisedAt(hopping(31, 31, 1, 50, 0), at(1, 100000, 100001), "30=50", "31=50", "30=50");
    }

    private void greatestLevel() {
        dueRaised("a signal just above the floor", pulsed(5, 11, 0, 1, 1), "5=11");
        dueRaised("a signal at the floor", pulsed(5, 10, 0, 1, 1), "");
        dueRaised("a signal below the floor", pulsed(5, 9, 0, 1, 1), "");
        OccupancyMonitor x = pulsed(5, 40, 0, 1, 1);
        x.addPulsed(5, 70, 0, 1, 3);
        x.addHopping(5, 1, 1, 60, 0);
        x.addPulsed(5, 99, 9, 1, 1000);
        dueRaisedAt(x, at(0, 1, 3, 8, 9), "5=70", "5=40 6=60", "5=70 8=60", "5=40 13=60", "5=99 14=60");
        x.setLevels(80, 30);
        s.due("level(5) when the floor is below it", x.level(5), 99);
        s.due("level(14) when the floor is above it", x.level(14), 80);
        s.due("level(0)", x.level(0), 80);
    }

    // ---- Promise 1

    private void newObject() {
        s.at("Promise 1");
        s.test("Creates a monitor without signals, with a plan without steps and an empty text, at tick 0.", () -> {
            s.refusedIndex("removeSignal(0)", FRESH, x -> x.removeSignal(0));
            s.accepted("addPulsed", FRESH, x -> x.addPulsed(0, 0, 0, 1, 1), 0);
            s.accepted("steps()", FRESH, x -> x.steps(), 0);
            s.refusedIndex("step(0, 0)", FRESH, x -> x.step(0, 0));
            s.accepted("presentStep()", FRESH, x -> x.presentStep(), -1);
            s.accepted("planByte(0)", FRESH, x -> x.planByte(0), -1);
            s.accepted("clearText()", FRESH, x -> x.clearText(), 0);
            s.accepted("append(48)", FRESH, x -> x.append(48), 1);
            s.accepted("parsePlan()", FRESH, x -> x.parsePlan(), 0);
            s.accepted("run(0)", FRESH, x -> x.run(0), 0);
            s.accepted("events()", FRESH, x -> x.events(), 0);
            s.refusedState("undo()", FRESH, x -> x.undo());
            dueRaised("new object", FRESH.make(), "");
        });
    }

    // ---- Promise 2

    private void addPulsed() {
        s.at("Promise 2");
        s.test("Adds a pulsed signal.", () -> dueRaised("addPulsed", pulsed(3, 60, 0, 1, 1), "3=60"));
        s.test("Undoable.", () -> {
            s.saves("addPulsed", ROOMY, x -> x.addPulsed(3, 90, 0, 1, 1));
            s.saves("addPulsed of a new object", FRESH, x -> x.addPulsed(0, 0, 0, 1, 1));
        });
        s.test("`channel`: 0 to 31", () -> {
            dueRaised("channel 0", pulsed(0, 50, 0, 1, 1), "0=50");
            dueRaised("channel 31", pulsed(31, 50, 0, 1, 1), "31=50");
            s.refusedArgument("channel -1", BUSY, x -> x.addPulsed(-1, 50, 0, 1, 1));
            s.refusedArgument("channel 32", BUSY, x -> x.addPulsed(32, 50, 0, 1, 1));
        });
        s.test("`level`: 0 to 100", () -> {
            dueRaised("level 0", pulsed(4, 0, 0, 1, 1), "");
            dueRaised("level 100", pulsed(4, 100, 0, 1, 1), "4=100");
            s.refusedArgument("level -1", BUSY, x -> x.addPulsed(4, -1, 0, 1, 1));
            s.refusedArgument("level 101", BUSY, x -> x.addPulsed(4, 101, 0, 1, 1));
        });
        s.test("`start`: start tick, 0 to 100000", () -> {
            dueRaised("start 0", pulsed(4, 50, 0, 1, 1), "4=50");
            dueRaisedAt(pulsed(4, 50, 100000, 1, 1), at(99999, 100000), "", "4=50");
            s.refusedArgument("start -1", BUSY, x -> x.addPulsed(4, 50, -1, 1, 1));
            s.refusedArgument("start 100001", BUSY, x -> x.addPulsed(4, 50, 100001, 1, 1));
        });
        s.test("`on`: ticks on, 1 to period", this::pulsedOn);
        s.test("`period`: 1 to 1000", () -> {
            dueRaisedAt(pulsed(4, 50, 0, 1, 1), at(0, 1, 2), "4=50", "4=50", "4=50");
            dueRaisedAt(pulsed(4, 50, 0, 1, 1000), at(0, 1, 999, 1000), "4=50", "", "", "4=50");
            s.refusedArgument("period 0", BUSY, x -> x.addPulsed(4, 50, 0, 1, 0));
            s.refusedArgument("period 1001", BUSY, x -> x.addPulsed(4, 50, 0, 1, 1001));
            s.refusedArgument("period -1", BUSY, x -> x.addPulsed(4, 50, 0, -1, -1));
        });
        s.test("Returns the number of the signal.", () -> {
            s.accepted("the first one", FRESH, x -> x.addPulsed(0, 0, 0, 1, 1), 0);
            s.accepted("behind two", BUSY, x -> x.addPulsed(0, 0, 0, 1, 1), 2);
            OccupancyMonitor x = TEN.make();
            x.removeSignal(0);
            s.due("the tenth one", x.addPulsed(0, 0, 0, 1, 1), 9);
        });
        s.test("Throws `IllegalArgumentException` if an argument is out of range", this::wrongPulsed);
        s.test("Throws `IllegalStateException` if there are 10 signals", () -> {
            s.refusedState("with 10 signals", TEN, x -> x.addPulsed(0, 0, 0, 1, 1));
            s.refusedArgument("with 10 signals and a wrong argument", TEN, x -> x.addPulsed(0, 0, 0, 2, 1));
            OccupancyMonitor x = TEN.make();
            x.removeSignal(9);
            s.due("with 9 signals", x.addPulsed(0, 0, 0, 1, 1), 9);
            s.dueText("with 10 again", Sentences.attempt(x, y -> y.addPulsed(0, 0, 0, 1, 1)),
                    "IllegalStateException");
        });
    }

    private void pulsedOn() {
        dueRaisedAt(pulsed(4, 50, 0, 1, 9), at(0, 1, 8, 9), "4=50", "", "", "4=50");
        dueRaisedAt(pulsed(4, 50, 0, 9, 9), at(0, 8, 9), "4=50", "4=50", "4=50");
        dueRaisedAt(pulsed(4, 50, 0, 1000, 1000), at(0, 999, 1000), "4=50", "4=50", "4=50");
        s.accepted("on 1, period 1", FRESH, x -> x.addPulsed(4, 50, 0, 1, 1), 0);
        s.refusedArgument("on 0, period 9", BUSY, x -> x.addPulsed(4, 50, 0, 0, 9));
        s.refusedArgument("on 10, period 9", BUSY, x -> x.addPulsed(4, 50, 0, 10, 9));
        s.refusedArgument("on 2, period 1", BUSY, x -> x.addPulsed(4, 50, 0, 2, 1));
        s.refusedArgument("on 1001, period 1000", BUSY, x -> x.addPulsed(4, 50, 0, 1001, 1000));
        s.refusedArgument("on 0, period 0", BUSY, x -> x.addPulsed(4, 50, 0, 0, 0));
        s.refusedArgument("on 1001, period 1001", BUSY, x -> x.addPulsed(4, 50, 0, 1001, 1001));
    }

    private void wrongPulsed() {
        int[] right = {4, 50, 0, 1, 1};
        for (int place = 0; place < right.length; place++) {
            for (int wrong : new int[] {LEAST, -1, 100001, GREATEST}) {
                int[] a = right.clone();
                a[place] = wrong;
                s.refusedArgument("argument " + place + " = " + wrong, BUSY,
                        x -> x.addPulsed(a[0], a[1], a[2], a[3], a[4]));
            }
        }
        s.refusedArgument("all arguments wrong", BUSY, x -> x.addPulsed(32, 101, 100001, 1002, 1001));
    }

    // ---- Promise 3

    private void addHopping() {
        s.at("Promise 3");
        s.test("Adds a hopping signal.", () -> dueRaised("addHopping", hopping(3, 1, 1, 60, 0), "3=60"));
        s.test("Undoable.", () -> {
            s.saves("addHopping", ROOMY, x -> x.addHopping(3, 1, 1, 90, 0));
            s.saves("addHopping of a new object", FRESH, x -> x.addHopping(0, 1, 1, 0, 0));
        });
        s.test("`first`: first channel, 0 to 31", () -> {
            dueRaised("first 0", hopping(0, 1, 1, 50, 0), "0=50");
            dueRaised("first 31", hopping(31, 1, 1, 50, 0), "31=50");
            s.refusedArgument("first -1", BUSY, x -> x.addHopping(-1, 1, 1, 50, 0));
            s.refusedArgument("first 32", BUSY, x -> x.addHopping(32, 1, 1, 50, 0));
        });
        s.test("`step`: 1 to 31", () -> {
            dueRaisedAt(hopping(4, 1, 1, 50, 0), at(0, 1), "4=50", "5=50");
            dueRaisedAt(hopping(4, 31, 1, 50, 0), at(0, 1), "4=50", "3=50");
            s.refusedArgument("step 0", BUSY, x -> x.addHopping(4, 0, 1, 50, 0));
            s.refusedArgument("step 32", BUSY, x -> x.addHopping(4, 32, 1, 50, 0));
            s.refusedArgument("step -1", BUSY, x -> x.addHopping(4, -1, 1, 50, 0));
        });
        s.test("`hold`: hold time, 1 to 1000", () -> {
            dueRaisedAt(hopping(4, 1, 1, 50, 0), at(0, 1), "4=50", "5=50");
            dueRaisedAt(hopping(4, 1, 1000, 50, 0), at(0, 999, 1000), "4=50", "4=50", "5=50");
            s.refusedArgument("hold 0", BUSY, x -> x.addHopping(4, 1, 0, 50, 0));
            s.refusedArgument("hold 1001", BUSY, x -> x.addHopping(4, 1, 1001, 50, 0));
        });
        s.test("`level`: 0 to 100", () -> {
            dueRaised("level 0", hopping(4, 1, 1, 0, 0), "");
            dueRaised("level 100", hopping(4, 1, 1, 100, 0), "4=100");
            s.refusedArgument("level -1", BUSY, x -> x.addHopping(4, 1, 1, -1, 0));
            s.refusedArgument("level 101", BUSY, x -> x.addHopping(4, 1, 1, 101, 0));
        });
        s.test("`start`: start tick, 0 to 100000", () -> {
            dueRaised("start 0", hopping(4, 1, 1, 50, 0), "4=50");
            dueRaisedAt(hopping(4, 1, 1, 50, 100000), at(99999, 100000), "", "4=50");
            s.refusedArgument("start -1", BUSY, x -> x.addHopping(4, 1, 1, 50, -1));
            s.refusedArgument("start 100001", BUSY, x -> x.addHopping(4, 1, 1, 50, 100001));
        });
        s.test("Returns the number of the signal.", () -> {
            s.accepted("the first one", FRESH, x -> x.addHopping(0, 1, 1, 0, 0), 0);
            s.accepted("behind two", BUSY, x -> x.addHopping(0, 1, 1, 0, 0), 2);
            OccupancyMonitor x = TEN.make();
            x.removeSignal(0);
            s.due("the tenth one", x.addHopping(0, 1, 1, 0, 0), 9);
        });
        s.test("Throws `IllegalArgumentException` if an argument is out of range", this::wrongHopping);
        s.test("Throws `IllegalStateException` if there are 10 signals", () -> {
            s.refusedState("with 10 signals", TEN, x -> x.addHopping(0, 1, 1, 0, 0));
            s.refusedArgument("with 10 signals and a wrong argument", TEN, x -> x.addHopping(0, 0, 1, 0, 0));
            OccupancyMonitor x = TEN.make();
            x.removeSignal(9);
            s.due("with 9 signals", x.addHopping(0, 1, 1, 0, 0), 9);
            s.dueText("with 10 again", Sentences.attempt(x, y -> y.addHopping(0, 1, 1, 0, 0)),
                    "IllegalStateException");
        });
    }

    private void wrongHopping() {
        int[] right = {4, 1, 1, 50, 0};
        for (int place = 0; place < right.length; place++) {
            for (int wrong : new int[] {LEAST, -1, 100001, GREATEST}) {
                int[] a = right.clone();
                a[place] = wrong;
                s.refusedArgument("argument " + place + " = " + wrong, BUSY,
                        x -> x.addHopping(a[0], a[1], a[2], a[3], a[4]));
            }
        }
        s.refusedArgument("all arguments wrong", BUSY, x -> x.addHopping(32, 0, 1001, 101, 100001));
    }

    // ---- Promise 4

    /** Signals 0 to 2 in channels 1 to 3. */
    private static OccupancyMonitor threeSignals() {
        OccupancyMonitor x = pulsed(1, 51, 0, 1, 1);
        x.addHopping(2, 1, 1000, 52, 0);
        x.addPulsed(3, 53, 0, 1, 1);
        return x;
    }

    private void removeSignal() {
        s.at("Promise 4");
        s.test("Removes a signal; the numbers of those behind it decrease by 1.", this::numbersDecrease);
        s.test("Undoable.", () -> {
            s.saves("removeSignal(0)", ROOMY, x -> x.removeSignal(0));
            s.saves("removeSignal(1)", ROOMY, x -> x.removeSignal(1));
            s.saves("removeSignal(0) of one", () -> pulsed(1, 50, 0, 1, 1), x -> x.removeSignal(0));
        });
        s.test("`signal`: number of the signal", () -> {
            s.accepted("removeSignal(0) of ten", TEN, x -> x.removeSignal(0), 9);
            s.accepted("removeSignal(9) of ten", TEN, x -> x.removeSignal(9), 9);
            s.refusedIndex("removeSignal(10) of ten", TEN, x -> x.removeSignal(10));
            s.refusedIndex("removeSignal(-1) of ten", TEN, x -> x.removeSignal(-1));
        });
        s.test("Returns the number of signals that are left.", () -> {
            OccupancyMonitor x = TEN.make();
            for (int left = 9; left >= 0; left--) {
                s.due("removeSignal(0)", x.removeSignal(0), left);
            }
        });
        s.test("Throws `IndexOutOfBoundsException` if there is no such signal", () -> {
            s.refusedIndex("removeSignal(0) of none", FRESH, x -> x.removeSignal(0));
            s.refusedIndex("removeSignal(-1)", BUSY, x -> x.removeSignal(-1));
            s.accepted("removeSignal(1) of two", BUSY, x -> x.removeSignal(1), 1);
            s.refusedIndex("removeSignal(2) of two", BUSY, x -> x.removeSignal(2));
            s.refusedIndex("removeSignal(least)", BUSY, x -> x.removeSignal(LEAST));
            s.refusedIndex("removeSignal(greatest)", BUSY, x -> x.removeSignal(GREATEST));
        });
    }

    private void numbersDecrease() {
        String[] left = {"2=52 3=53", "1=51 3=53", "1=51 2=52"};
        String[] leftThen = {"3=53", "3=53", "2=52"};
        for (int signal = 0; signal < 3; signal++) {
            OccupancyMonitor x = threeSignals();
            x.removeSignal(signal);
            dueRaised("removeSignal(" + signal + ")", x, left[signal]);
            x.removeSignal(0);
            dueRaised("removeSignal(" + signal + "), then (0)", x, leftThen[signal]);
        }
        OccupancyMonitor x = TEN.make();
        x.removeSignal(0);
        x.removeSignal(8);
        dueRaised("the first and the last of ten", x, "1=41 2=42 3=43 4=44 10=50 11=51 12=52 13=53");
        s.due("a signal behind them", x.addPulsed(31, 99, 0, 1, 1), 8);
    }

    // ---- Promise 5

    private void setLevels() {
        s.at("Promise 5");
        s.test("Sets the noise floor and the threshold.", () -> {
            OccupancyMonitor x = Checks.withPlan("0:1;");
            x.setLevels(20, 20);
            s.due("level(0)", x.level(0), 20);
            x.run(1);
            s.due("hits at the threshold", x.detector(0, 1), 0);
            x.setLevels(20, 19);
            s.due("hits before the next tick", x.detector(0, 1), 0);
            x.run(1);
            s.due("hits above the threshold", x.detector(0, 1), 1);
            x.setLevels(0, 100);
            s.dueEvents("before the next tick", x, "0 2 2 20 1 -1 0;");
        });
        s.test("Undoable.", () -> {
            s.saves("setLevels", ROOMY, x -> x.setLevels(99, 98));
            s.saves("setLevels without a change", ROOMY, x -> x.setLevels(11, 33));
        });
        s.test("`floor`: 0 to 100", () -> {
            OccupancyMonitor x = new OccupancyMonitor();
            x.setLevels(0, 30);
            s.due("level(0) with the floor 0", x.level(0), 0);
            x.setLevels(100, 30);
            s.due("level(0) with the floor 100", x.level(0), 100);
            s.refusedArgument("setLevels(-1, 30)", BUSY, y -> y.setLevels(-1, 30));
            s.refusedArgument("setLevels(101, 30)", BUSY, y -> y.setLevels(101, 30));
        });
        s.test("`threshold`: 0 to 100", () -> {
            dueHits(0, 0, 0);
            dueHits(1, 0, 1);
            dueHits(100, 99, 1);
            dueHits(100, 100, 0);
            s.refusedArgument("setLevels(10, -1)", BUSY, y -> y.setLevels(10, -1));
            s.refusedArgument("setLevels(10, 101)", BUSY, y -> y.setLevels(10, 101));
        });
        s.test("Returns the previous threshold.", () -> {
            OccupancyMonitor x = new OccupancyMonitor();
            s.due("setLevels(1, 0)", x.setLevels(1, 0), 30);
            s.due("setLevels(2, 100)", x.setLevels(2, 100), 0);
            s.due("setLevels(3, 5)", x.setLevels(3, 5), 100);
            x.undo();
            s.due("setLevels(4, 6) after undo", x.setLevels(4, 6), 100);
        });
        s.test("Throws `IllegalArgumentException` if an argument is out of range", () -> {
            for (int wrong : new int[] {LEAST, -1, 101, GREATEST}) {
                s.refusedArgument("setLevels(" + wrong + ", 30)", BUSY, x -> x.setLevels(wrong, 30));
                s.refusedArgument("setLevels(10, " + wrong + ")", BUSY, x -> x.setLevels(10, wrong));
                s.refusedArgument("setLevels of " + wrong, BUSY, x -> x.setLevels(wrong, wrong));
            }
        });
    }

    private void dueHits(int floor, int threshold, int want) {
        OccupancyMonitor x = Checks.withPlan("0:1;");
        x.setLevels(floor, threshold);
        x.run(1);
        s.due("hits with the floor " + floor + " and the threshold " + threshold, x.detector(0, 1), want);
    }

    // ---- Promise 6

    /** Which channels have violations after one tick with the floor 50 and this mask, as "channel ..". */
    private static String violated(int low, int high, int mask) {
        OccupancyMonitor x = Checks.withPlan("0-31:1;");
        x.setLevels(50, 30);
        x.setMask(low, high, mask);
        x.run(1);
        StringBuilder out = new StringBuilder();
        for (int channel = 0; channel < 32; channel++) {
            out.append(x.detector(channel, 3) > 0 ? channel + " " : "");
        }
        return out.toString().trim();
    }

    private void setMask() {
        s.at("Promise 6");
        s.test("Sets the mask of a range of channels.", () -> {
            s.dueText("violations behind setMask(5, 7, 49)", violated(5, 7, 49), "5 6 7");
            s.dueText("violations behind setMask(5, 7, 50)", violated(5, 7, 50), "");
            OccupancyMonitor x = Checks.withPlan("0:1;");
            x.setMask(0, 0, 9);
            x.run(3);
            x.setMask(0, 0, 10);
            s.due("violations of the mask before", x.detector(0, 3), 3);
            x.run(1);
            s.due("violations of both masks", x.detector(0, 3), 3);
        });
        s.test("Undoable.", () -> {
            s.saves("setMask", ROOMY, x -> x.setMask(0, 31, 5));
            s.saves("setMask without a change", ROOMY, x -> x.setMask(3, 9, 61));
        });
        s.test("`low`: lowest channel, 0 to high", () -> {
            s.dueText("violations behind setMask(0, 1, 0)", violated(0, 1, 0), "0 1");
            s.dueText("violations behind setMask(4, 4, 0)", violated(4, 4, 0), "4");
            s.dueText("violations behind setMask(0, 0, 0)", violated(0, 0, 0), "0");
            s.refusedIndex("setMask(-1, 1, 0)", BUSY, x -> x.setMask(-1, 1, 0));
            s.refusedIndex("setMask(5, 4, 0)", BUSY, x -> x.setMask(5, 4, 0));
            s.refusedIndex("setMask(1, 0, 0)", BUSY, x -> x.setMask(1, 0, 0));
        });
        s.test("`high`: highest channel, low to 31", () -> {
            s.dueText("violations behind setMask(30, 31, 0)", violated(30, 31, 0), "30 31");
            s.dueText("violations behind setMask(31, 31, 0)", violated(31, 31, 0), "31");
            s.refusedIndex("setMask(30, 32, 0)", BUSY, x -> x.setMask(30, 32, 0));
            s.refusedIndex("setMask(31, 30, 0)", BUSY, x -> x.setMask(31, 30, 0));
            s.refusedIndex("setMask(32, 32, 0)", BUSY, x -> x.setMask(32, 32, 0));
            s.refusedIndex("setMask(0, -1, 0)", BUSY, x -> x.setMask(0, -1, 0));
        });
        s.test("`mask`: 0 to 100", () -> {
            s.accepted("setMask(0, 0, 0)", FRESH, x -> x.setMask(0, 0, 0), 100);
            s.accepted("setMask(3, 3, 100)", BUSY, x -> x.setMask(3, 3, 100), 61);
            s.dueText("violations behind setMask(2, 3, 0)", violated(2, 3, 0), "2 3");
            s.dueText("violations behind setMask(0, 31, 100)", violated(0, 31, 100), "");
            s.refusedArgument("setMask(3, 3, -1)", BUSY, x -> x.setMask(3, 3, -1));
            s.refusedArgument("setMask(3, 3, 101)", BUSY, x -> x.setMask(3, 3, 101));
        });
        s.test("Returns the previous mask of the lowest channel.", () -> {
            OccupancyMonitor x = new OccupancyMonitor();
            s.due("setMask(4, 6, 20)", x.setMask(4, 6, 20), 100);
            s.due("setMask(6, 8, 0)", x.setMask(6, 8, 0), 20);
            s.due("setMask(7, 8, 30)", x.setMask(7, 8, 30), 0);
            s.due("setMask(3, 4, 40)", x.setMask(3, 4, 40), 100);
            s.due("setMask(0, 31, 50)", x.setMask(0, 31, 50), 100);
            s.due("setMask(31, 31, 60)", x.setMask(31, 31, 60), 50);
        });
        s.test("Throws `IndexOutOfBoundsException` if a channel is out of range, or low is greater than high", () -> {
            int[][] wrong = {{LEAST, 3}, {3, GREATEST}, {GREATEST, GREATEST}, {LEAST, LEAST}, {GREATEST, LEAST},
                {LEAST, GREATEST}, {-1, -1}, {-2, -1}, {31, 0}, {32, 33}, {-1, 32}};
            for (int[] a : wrong) {
                String call = "setMask(" + a[0] + ", " + a[1] + ", ";
                s.refusedIndex(call + "0)", BUSY, x -> x.setMask(a[0], a[1], 0));
                s.refusedIndex(call + "101)", BUSY, x -> x.setMask(a[0], a[1], 101));
            }
        });
        s.test("Throws `IllegalArgumentException` if mask is out of range", () -> {
            for (int wrong : new int[] {LEAST, -1, 101, GREATEST}) {
                s.refusedArgument("setMask(0, 31, " + wrong + ")", BUSY, x -> x.setMask(0, 31, wrong));
            }
        });
    }

    // ---- Promise 7

    /** How many chains two events of channels 0 and 1 make, this many ticks and levels apart. */
    private static int chains(int gap, int tolerance, int ticks, int levels) {
        OccupancyMonitor x = Checks.withPlan("0-1:1;");
        x.setLevels(0, 0);
        Sentences.hit(x, 0, 1, 1);
        x.run(ticks - 1);
        Sentences.hit(x, 1, 1 + levels, 1);
        x.setHops(gap, tolerance);
        return x.chains();
    }

    private void setHops() {
        s.at("Promise 7");
        s.test("Sets the gap and the tolerance.", () -> {
            s.due("chains: gap 4, tolerance 7, 4 ticks and 7 levels", chains(4, 7, 4, 7), 1);
            s.due("chains: gap 4, tolerance 7, 5 ticks and 7 levels", chains(4, 7, 5, 7), 2);
            s.due("chains: gap 4, tolerance 7, 4 ticks and 8 levels", chains(4, 7, 4, 8), 2);
        });
        s.test("Undoable.", () -> {
            s.saves("setHops", ROOMY, x -> x.setHops(1, 0));
            s.saves("setHops without a change", ROOMY, x -> x.setHops(7, 6));
        });
        s.test("`gap`: 1 to 1000", () -> {
            s.due("chains: gap 1, 1 tick", chains(1, 0, 1, 0), 1);
            s.due("chains: gap 1, 2 ticks", chains(1, 0, 2, 0), 2);
            s.due("chains: gap 1000, 1000 ticks", chains(1000, 0, 1000, 0), 1);
            s.due("chains: gap 1000, 1001 ticks", chains(1000, 0, 1001, 0), 2);
            s.refusedArgument("setHops(0, 5)", BUSY, x -> x.setHops(0, 5));
            s.refusedArgument("setHops(1001, 5)", BUSY, x -> x.setHops(1001, 5));
        });
        s.test("`tolerance`: 0 to 100", () -> {
            s.due("chains: tolerance 0, equal peaks", chains(1, 0, 1, 0), 1);
            s.due("chains: tolerance 0, peaks 1 apart", chains(1, 0, 1, 1), 2);
            s.due("chains: tolerance 98, peaks 99 apart", chains(1, 98, 1, 99), 2);
            s.due("chains: tolerance 99, peaks 99 apart", chains(1, 99, 1, 99), 1);
            s.due("chains: tolerance 100, peaks 99 apart", chains(1, 100, 1, 99), 1);
            s.refusedArgument("setHops(10, -1)", BUSY, x -> x.setHops(10, -1));
            s.refusedArgument("setHops(10, 101)", BUSY, x -> x.setHops(10, 101));
        });
        s.test("Returns the previous gap.", () -> {
            OccupancyMonitor x = new OccupancyMonitor();
            s.due("setHops(1000, 1)", x.setHops(1000, 1), 10);
            s.due("setHops(1, 2)", x.setHops(1, 2), 1000);
            s.due("setHops(3, 4)", x.setHops(3, 4), 1);
            x.undo();
            s.due("setHops(5, 6) after undo", x.setHops(5, 6), 1);
        });
        s.test("Throws `IllegalArgumentException` if an argument is out of range", () -> {
            for (int wrong : new int[] {LEAST, -1, 1001, GREATEST}) {
                s.refusedArgument("setHops(" + wrong + ", 5)", BUSY, x -> x.setHops(wrong, 5));
                s.refusedArgument("setHops(10, " + wrong + ")", BUSY, x -> x.setHops(10, wrong));
                s.refusedArgument("setHops of " + wrong, BUSY, x -> x.setHops(wrong, wrong));
            }
        });
    }
}
