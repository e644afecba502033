import java.math.BigInteger;

/** The sentences of "What it is", "Undo" and "Exceptions", and of promises 27 and 28. */
final class StateSentences {
    private static final Sentences.Setup FRESH = Sentences.FRESH;
    private static final Sentences.Setup BUSY = Sentences.BUSY;
    private static final Sentences.Setup ROOMY = Sentences.ROOMY;
    private static final String TWELVE = "0-9:3;5-20:4;1:1;2:2;3:3;4:4;5:5;6:6;7:7;8:8;9:9;31:20;";

    private final Sentences s;

    StateSentences(Sentences sentences) {
        s = sentences;
    }

    void test() {
        whatItIs();
        undoText();
        exceptions();
        undo();
        digest();
    }

    // ---- What it is

    private void whatItIs() {
        s.at("What it is");
        s.test("An object is used for at most 512 calls after it has been made", () -> {
            OccupancyMonitor x = new OccupancyMonitor();
            for (char sign : "0-31:1;".toCharArray()) {
                x.append(sign);
            }
            x.parsePlan();
            x.addHopping(31, 31, 1, 77, 0);
            for (int call = 0; call < 500; call++) {
                x.run(2000);
            }
            // 31 + 31 * 1000000 is 31 modulo 32, and 1000000 ticks have 31250 multiples of 32.
            s.due("call 510: level(31)", x.level(31), 77);
            s.due("call 511: detector(31, 1)", x.detector(31, 1), 31250);
            s.due("call 512: run(2000)", x.run(2000), 1002000);
            OccupancyMonitor y = new OccupancyMonitor();
            for (int call = 0; call < 511; call++) {
                y.run(0);
            }
            s.due("call 512: undo()", y.undo(), 3);
        });
    }

    // ---- Undo

    private void undoText() {
        s.at("Undo");
        s.test("Each successful call of a method whose description says \"undoable\" saves the state from before the"
                + " call", this::undoableCalls);
        s.test("even if the call changes nothing", () -> {
            s.saves("setLevels", ROOMY, x -> x.setLevels(11, 33));
            s.saves("setMask", ROOMY, x -> x.setMask(3, 9, 61));
            s.saves("setHops", ROOMY, x -> x.setHops(7, 6));
            s.saves("run(0)", ROOMY, x -> x.run(0));
            s.saves("reset()", FRESH, x -> x.reset());
            s.saves("parsePlan()", FRESH, x -> x.parsePlan());
        });
        s.test("at most 4 states are saved", () -> {
            for (int calls = 0; calls <= 6; calls++) {
                OccupancyMonitor x = ticking(calls);
                s.due("states saved by " + calls + " calls", Sentences.savedStates(x), Math.min(4, calls));
            }
        });
        s.test("the oldest is dropped first", () -> {
            dueTicksBack(4, 6, 3, 1, 0);
            dueTicksBack(5, 10, 6, 3, 1);
            dueTicksBack(6, 15, 10, 6, 3);
            dueTicksBack(13, 78, 66, 55, 45);
        });
        s.test("The saved state contains everything except the plan text.", () -> {
            everythingIsSaved();
            textIsNotSaved();
        });
    }

    private void undoableCalls() {
        s.saves("addPulsed", ROOMY, x -> x.addPulsed(3, 90, 0, 1, 1));
        s.saves("addHopping", ROOMY, x -> x.addHopping(3, 1, 1, 90, 0));
        s.saves("removeSignal", ROOMY, x -> x.removeSignal(0));
        s.saves("setLevels", ROOMY, x -> x.setLevels(1, 2));
        s.saves("setMask", ROOMY, x -> x.setMask(0, 31, 3));
        s.saves("setHops", ROOMY, x -> x.setHops(4, 5));
        s.saves("parsePlan", ROOMY, x -> x.parsePlan());
        s.saves("run", ROOMY, x -> x.run(50));
        s.saves("reset", ROOMY, x -> x.reset());
        // The other calls save nothing, and calls without success neither.
        Sentences.Call[] others = {x -> x.append(' '), x -> x.clearText(), x -> x.steps(), x -> x.step(0, 0),
            x -> x.planByte(0), x -> x.revisit(0), x -> x.presentStep(), x -> x.level(0), x -> x.detector(0, 0),
            x -> x.average(0), x -> (long) x.occupancy(0), x -> x.events(), x -> x.event(0, 5),
            x -> x.chainLength(0), x -> x.chains(), x -> (long) x.hopInterval(0), x -> x.digest(),
            x -> x.run(-1), x -> x.setLevels(0, 101), x -> x.removeSignal(2), x -> x.setMask(1, 0, 0),
            x -> x.setHops(0, 0), x -> x.addPulsed(0, 0, 0, 2, 1), x -> x.addHopping(0, 0, 1, 0, 0),
            x -> x.append('x') + x.parsePlan()};
        for (int call = 0; call < others.length; call++) {
            OccupancyMonitor x = ROOMY.make();
            Sentences.attempt(x, others[call]);
            s.due("states saved after other call " + call, Sentences.savedStates(x), 3);
        }
    }

    /** An object after run(1), run(2) and so on. */
    private static OccupancyMonitor ticking(int calls) {
        OccupancyMonitor x = new OccupancyMonitor();
        for (int call = 1; call <= calls; call++) {
            x.run(call);
        }
        return x;
    }

    private void dueTicksBack(int calls, int... ticks) {
        for (int back = 1; back <= ticks.length; back++) {
            OccupancyMonitor x = ticking(calls);
            for (int call = 0; call < back; call++) {
                x.undo();
            }
            s.due("the tick after " + calls + " calls and " + back + " undo()", x.run(0), ticks[back - 1]);
        }
    }

    private void everythingIsSaved() {
        OccupancyMonitor x = BUSY.make();
        x.run(0);
        x.removeSignal(0);
        x.setLevels(50, 20);
        x.parsePlan();
        s.due("a change of signals, levels and plan", x.undo(), 3);
        x.undo();
        x.undo();
        goesOnAlike("signals, levels and plan", x);
        OccupancyMonitor y = BUSY.make();
        y.run(0);
        y.setMask(0, 31, 1);
        y.setHops(900, 90);
        y.reset();
        y.undo();
        y.undo();
        y.undo();
        goesOnAlike("masks, hops, detectors and events", y);
        OccupancyMonitor z = BUSY.make();
        z.run(0);
        z.run(500);
        z.undo();
        goesOnAlike("the tick, the dwell, the latest levels and the open events", z);
    }

    /** The object stands where a busy one stands after run(0); what digest hides shows as ticks pass. */
    private void goesOnAlike(String call, OccupancyMonitor x) {
        OccupancyMonitor y = BUSY.make();
        y.run(0);
        // So that both have 4 saved states, which digest tells too.
        for (int call4 = 0; call4 < 4; call4++) {
            x.run(0);
            y.run(0);
        }
        s.due(call + ": digest()", x.digest(), y.digest());
        for (int tick = 0; tick < 12; tick++) {
            x.run(1);
            y.run(1);
            s.due(call + ": digest() after " + tick + " ticks more", x.digest(), y.digest());
        }
    }

    private void textIsNotSaved() {
        OccupancyMonitor x = Checks.withPlan("1:1;");
        x.run(1);
        x.append('2');
        x.undo();
        s.due("append() after undo", x.append(':'), 6);
        x.undo();
        s.due("steps() after undo of parsePlan", x.steps(), 0);
        s.due("append() after undo of parsePlan", x.append('3'), 7);
        x.append(';');
        s.due("parsePlan() of the whole text", x.parsePlan(), 2);
        s.dueText("the plan", Checks.written(x), "1:1;2:3;");
        x.clearText();
        x.undo();
        s.due("clearText() after undo", x.clearText(), 0);
    }

    // ---- Exceptions

    private void exceptions() {
        Sentences.Setup ten = StateSentences::tenSignals;
        Sentences.Setup full = StateSentences::fullText;
        s.at("Exceptions");
        s.test("A call that throws an exception changes nothing.", () -> {
            s.refusedArgument("addPulsed", BUSY, x -> x.addPulsed(5, 99, 0, 2, 1));
            s.refusedState("addPulsed of an eleventh signal", ten, x -> x.addPulsed(5, 99, 0, 1, 1));
            s.refusedArgument("addHopping", BUSY, x -> x.addHopping(5, 1, 1, 99, 100001));
            s.refusedState("addHopping of an eleventh signal", ten, x -> x.addHopping(5, 1, 1, 99, 0));
            s.refusedIndex("removeSignal", BUSY, x -> x.removeSignal(2));
            s.refusedArgument("setLevels", BUSY, x -> x.setLevels(50, 101));
            s.refusedIndex("setMask", BUSY, x -> x.setMask(0, 32, 1));
            s.refusedArgument("setMask with a wrong mask", BUSY, x -> x.setMask(0, 31, 101));
            s.refusedArgument("setHops", BUSY, x -> x.setHops(500, 101));
            s.refusedArgument("append", BUSY, x -> x.append(128));
            s.refusedState("append to 100 bytes", full, x -> x.append(32));
            s.refusedArgument("run", BUSY, x -> x.run(2001));
            s.refusedState("undo", FRESH, x -> x.undo());
        });
        s.test("If several exceptions apply, the one that is listed first is thrown.", () -> {
            s.refusedArgument("addPulsed", ten, x -> x.addPulsed(32, 0, 0, 1, 1));
            s.refusedArgument("addHopping", ten, x -> x.addHopping(32, 1, 1, 0, 0));
            s.refusedIndex("setMask, a channel", BUSY, x -> x.setMask(0, 32, 101));
            s.refusedIndex("setMask, the order", BUSY, x -> x.setMask(2, 1, -1));
            s.refusedArgument("append", full, x -> x.append(-1));
            s.refusedIndex("step", BUSY, x -> x.step(2, 3));
            s.refusedIndex("step of no steps", FRESH, x -> x.step(0, -1));
            s.refusedIndex("detector", BUSY, x -> x.detector(32, 4));
            s.refusedIndex("event", FRESH, x -> x.event(0, 7));
            s.refusedIndex("event of a busy object", BUSY, x -> x.event(-1, -1));
        });
    }

    private static OccupancyMonitor tenSignals() {
        OccupancyMonitor x = BUSY.make();
        for (int signal = 2; signal < 10; signal++) {
            x.addPulsed(signal, 35 + signal, signal, 1, 20 - signal);
        }
        x.run(30);
        return x;
    }

    private static OccupancyMonitor fullText() {
        OccupancyMonitor x = BUSY.make();
        Checks.type(x, " ".repeat(96) + "7:7;");
        return x;
    }

    // ---- Promise 27

    private void undo() {
        s.at("Promise 27");
        s.test("Restores the most recently saved state and removes it from the saved states.", () -> {
            OccupancyMonitor x = ticking(3);
            x.undo();
            s.due("the tick after one undo()", x.run(0), 3);
            x.undo();
            x.undo();
            s.due("the tick after another undo()", x.run(0), 1);
            // A state that is saved after undo() takes the place behind those that remained.
            x.undo();
            x.run(7);
            s.due("undo() of run(7)", x.undo(), 1);
            s.due("undo() of run(1)", x.undo(), 0);
            s.due("the tick", x.run(0), 0);
        });
        s.test("Returns the number of saved states that remain.", () -> {
            OccupancyMonitor x = ticking(1);
            s.due("undo() of one", x.undo(), 0);
            OccupancyMonitor y = ticking(4);
            for (int left = 3; left >= 0; left--) {
                s.due("undo() of four", y.undo(), left);
            }
            OccupancyMonitor z = ticking(5);
            for (int left = 3; left >= 0; left--) {
                s.due("undo() of five", z.undo(), left);
            }
        });
        s.test("Throws `IllegalStateException` if there is no saved state", () -> {
            s.refusedState("undo() of a new object", FRESH, x -> x.undo());
            for (int calls : new int[] {1, 4, 5}) {
                s.refusedState("undo() behind the last one of " + calls, () -> {
                    OccupancyMonitor x = ticking(calls);
                    for (int call = 0; call < Math.min(4, calls); call++) {
                        x.undo();
                    }
                    return x;
                }, x -> x.undo());
            }
            s.refusedState("undo() after calls that save nothing", () -> {
                OccupancyMonitor x = new OccupancyMonitor();
                x.append('1');
                x.parsePlan();
                x.digest();
                return x;
            }, x -> x.undo());
        });
    }

    // ---- Promise 28

    /** 10 signals, 12 steps, 50 events, other settings and 4 saved states. */
    private static OccupancyMonitor fullObject() {
        OccupancyMonitor x = Checks.withPlan("0-31:1;");
        for (int signal = 0; signal < 5; signal++) {
            x.addPulsed(signal, 90 + signal, signal, 1, 2 + signal);
            x.addHopping(31 - signal, 1 + signal, 2 + signal, 80 + signal, signal);
        }
        x.setLevels(12, 34);
        x.setHops(45, 6);
        x.setMask(1, 4, 91);
        x.run(400);
        Checks.parse(x, TWELVE);
        x.run(15);
        return x;
    }

    private static final class Hash {
        private BigInteger exact = BigInteger.valueOf(2851);

        void add(long... values) {
            for (long value : values) {
                exact = exact.multiply(BigInteger.valueOf(31)).add(BigInteger.valueOf(value));
            }
        }

        /** The lowest 64 bits, which is what remains when the overflow is ignored. */
        long value() {
            return exact.longValue();
        }
    }

    private void digest() {
        s.at("Promise 28");
        s.test("Returns a hash of the state.", () -> {
            s.unchanged("digest()", BUSY, x -> x.digest());
            s.due("digest() of two objects", BUSY.make().digest(), BUSY.make().digest());
        });
        s.test("Start with h = 2851 and, for each of the following values v, set h = 31 * h + v", () -> {
            s.accepted("digest() of a new object", FRESH, x -> x.digest(), emptyHash());
            s.accepted("digest() of a full object", StateSentences::fullObject, x -> x.digest(), fullHash());
        });
        s.test("the number of saved states", () -> {
            OccupancyMonitor x = new OccupancyMonitor();
            for (int calls = 0; calls <= 6; calls++) {
                s.due("digest() after " + calls + " calls", x.digest(), emptyHash() + Math.min(4, calls));
                x.run(0);
            }
        });
        s.test("the length of the plan text", () -> {
            OccupancyMonitor x = new OccupancyMonitor();
            x.append(48);
            long one = x.digest();
            OccupancyMonitor y = new OccupancyMonitor();
            y.append(49);
            s.due("digest() of another byte", y.digest(), one);
            y.append(49);
            s.due("digest() of two bytes", y.digest() - one, one - emptyHash());
        });
        s.test("Returns the hash, with the overflow of long arithmetic ignored.", () -> {
            s.accepted("digest() of a busy object", BUSY, x -> x.digest(), busyHash());
            s.due("digest() of a full object", fullObject().digest(), fullHash());
            OccupancyMonitor x = new OccupancyMonitor();
            for (int call = 0; call < 511; call++) {
                x.run(2000);
            }
            s.due("digest() at the greatest tick", x.digest(), quietHash(1022000, 4));
        });
    }

    private static long emptyHash() {
        return quietHash(0, 0);
    }

    /** The hash of an object on which only run was called. */
    private static long quietHash(int tick, int saved) {
        Hash hash = new Hash();
        hash.add(0, tick, 10, 30, 10, 5, 0, 0, -1);
        for (int channel = 0; channel < 32; channel++) {
            hash.add(100, 0, 0, -1, 0, -1);
        }
        hash.add(0, saved);
        return hash.value();
    }

    private static long busyHash() {
        Hash hash = new Hash();
        hash.add(12, 39, 11, 33, 7, 6, 2, 0, 3, 60, 2, 2, 5, 1, 4, 5, 3, 62, 2);
        hash.add(2, 0, 9, 3, 5, 20, 4, 1);
        addChannels(hash, BUSY, 3, 9, 61);
        addEvents(hash, BUSY);
        hash.add(4);
        return hash.value();
    }

    private static long fullHash() {
        Hash hash = new Hash();
        hash.add(TWELVE.length(), 415, 12, 34, 45, 6, 10);
        for (int signal = 0; signal < 5; signal++) {
            hash.add(0, signal, 90 + signal, signal, 1, 2 + signal);
            hash.add(1, 31 - signal, 1 + signal, 2 + signal, 80 + signal, signal);
        }
        hash.add(12, 0, 9, 3, 5, 20, 4, 1, 1, 1, 2, 2, 2, 3, 3, 3, 4, 4, 4, 5, 5, 5, 6, 6, 6);
        hash.add(7, 7, 7, 8, 8, 8, 9, 9, 9, 31, 31, 20);
        // 15 ticks are 3 + 4 + 1 + 2 + 3 of the first five steps, and 2 of the sixth.
        hash.add(5);
        addChannels(hash, StateSentences::fullObject, 1, 4, 91);
        addEvents(hash, StateSentences::fullObject);
        hash.add(4);
        return hash.value();
    }

    /** The detectors by their own answers; the masks of all but some channels are 100. */
    private static void addChannels(Hash hash, Sentences.Setup setup, int low, int high, int mask) {
        OccupancyMonitor x = setup.make();
        for (int channel = 0; channel < 32; channel++) {
            hash.add(channel >= low && channel <= high ? mask : 100);
            for (int what = 0; what <= 3; what++) {
                hash.add(x.detector(channel, what));
            }
            hash.add(x.average(channel));
        }
    }

    private static void addEvents(Hash hash, Sentences.Setup setup) {
        OccupancyMonitor x = setup.make();
        hash.add(x.events());
        for (int event = 0; event < x.events(); event++) {
            for (int what = 0; what <= 6; what++) {
                hash.add(x.event(event, what));
            }
        }
    }
}
