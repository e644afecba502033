/** The sentences of "Plan", "Plan text" and "Revisit time", and of promises 8 to 14. */
final class PlanSentences {
    private static final int LEAST = Integer.MIN_VALUE;
    private static final int GREATEST = Integer.MAX_VALUE;
    private static final Sentences.Setup FRESH = Sentences.FRESH;
    private static final Sentences.Setup BUSY = Sentences.BUSY;
    private static final Sentences.Setup ROOMY = Sentences.ROOMY;
    private static final Sentences.Setup FULL_TEXT = () -> typed(PlanSentences.HUNDRED);
    private static final String TWELVE = "1:1;".repeat(12);
    /** Twelve steps in 100 bytes, none of which can be left out. */
    private static final String HUNDRED = "10-31:20;".repeat(10) + "10:9;11:8;";

    private final Sentences s;

    PlanSentences(Sentences sentences) {
        s = sentences;
    }

    void test() {
        plan();
        planText();
        revisitTime();
        append();
        clearText();
        parsePlan();
        steps();
        step();
        planByte();
        revisit();
    }

    /** A busy object with this text, not yet parsed. */
    private static OccupancyMonitor typed(String text) {
        OccupancyMonitor x = BUSY.make();
        Checks.type(x, text);
        return x;
    }

    /** The text has a syntax error at this position, and parsing it changes nothing. */
    private void dueError(String text, int position) {
        String call = "parsePlan() of '" + text + "'";
        s.accepted(call, () -> typed(text), x -> x.parsePlan(), -10 - position);
        s.unchanged(call, () -> typed(text), x -> x.parsePlan());
    }

    /** The text is a plan, which is written in this way. */
    private void duePlan(String text, int steps, String written) {
        OccupancyMonitor x = typed(text);
        s.due("parsePlan() of '" + text + "'", x.parsePlan(), steps);
        s.due("steps() of '" + text + "'", x.steps(), steps);
        s.dueText("the plan of '" + text + "'", Checks.written(x), written);
    }

    private void dueSteps(OccupancyMonitor x, int... want) {
        for (int tick = 0; tick < want.length; tick++) {
            s.due("presentStep() after " + tick + " ticks", x.presentStep(), want[tick]);
            x.run(1);
        }
    }

    /** The channels that have observations, as "channel=observations ..". */
    private static String observed(OccupancyMonitor x) {
        StringBuilder out = new StringBuilder();
        for (int channel = 0; channel < 32; channel++) {
            int observations = x.detector(channel, 0);
            out.append(observations > 0 ? channel + "=" + observations + " " : "");
        }
        return out.toString().trim();
    }

    private void dueObserved(String plan, int ticks, String want) {
        OccupancyMonitor x = Checks.withPlan(plan);
        x.run(ticks);
        s.dueText("observed after " + ticks + " ticks of '" + plan + "'", observed(x), want);
    }

    // ---- Description

    private void plan() {
        s.at("Plan");
        s.test("A plan has 0 to 12 steps, numbered from 0", () -> {
            duePlan("", 0, "");
            duePlan(TWELVE, 12, TWELVE);
            dueError(TWELVE + "1:1;", 48);
            OccupancyMonitor x = Checks.withPlan("7:1;".repeat(11) + "8:2;");
            s.due("step(0, 0)", x.step(0, 0), 7);
            s.due("step(11, 0)", x.step(11, 0), 8);
            s.refusedIndex("step(12, 0)", () -> Checks.withPlan(TWELVE), y -> y.step(12, 0));
            s.refusedIndex("step(-1, 0)", () -> Checks.withPlan(TWELVE), y -> y.step(-1, 0));
        });
        s.test("initially it has none", () -> s.accepted("steps()", FRESH, x -> x.steps(), 0));
        s.test("a dwell, 1 to 20 ticks", () -> {
            dueSteps(Checks.withPlan("1:1;2:1;"), 0, 1, 0, 1);
            OccupancyMonitor x = Checks.withPlan("1:20;2:1;");
            x.run(19);
            s.due("presentStep() after 19 ticks of 20", x.presentStep(), 0);
            x.run(1);
            s.due("presentStep() after 20 ticks of 20", x.presentStep(), 1);
            x.run(1);
            s.due("presentStep() after 21 ticks", x.presentStep(), 0);
            dueError("1:0;", 2);
            dueError("1:21;", 2);
        });
        s.test("The monitor goes through the steps in order, again and again", () -> {
            dueSteps(Checks.withPlan("3:1;1:1;2:1;"), 0, 1, 2, 0, 1, 2, 0);
            dueSteps(Checks.withPlan("3:3;"), 0, 0, 0, 0, 0, 0, 0);
            dueSteps(Checks.withPlan(TWELVE), 0, 1, 2, 3, 4, 5, 6, 7, 8, 9, 10, 11, 0, 1);
            dueObserved("3:1;1:1;2:1;", 2000, "1=667 2=666 3=667");
        });
        s.test("it stays in each step for its dwell", () -> {
            dueSteps(Checks.withPlan("0:2;1:1;2:3;"), 0, 0, 1, 2, 2, 2, 0, 0, 1, 2);
            dueObserved("0:2;1:1;2:3;", 13, "0=5 1=2 2=6");
        });
        s.test("At a tick in a step it observes the channels from the lowest to the highest one of the step", () -> {
            dueObserved("4-6:1;", 1, "4=1 5=1 6=1");
            dueObserved("4:1;", 1, "4=1");
            dueObserved("0-1:1;", 1, "0=1 1=1");
            dueObserved("30-31:1;", 1, "30=1 31=1");
            dueObserved("1-3:2;3-4:1;", 3, "1=2 2=2 3=3 4=1");
        });
        s.test("in ascending order", () -> {
            OccupancyMonitor x = Checks.withPlan("0-31:1;");
            x.addPulsed(31, 50, 0, 1, 1);
            x.addPulsed(0, 50, 0, 1, 1);
            x.addPulsed(7, 50, 0, 1, 1);
            x.run(1);
            s.dueEvents("three hits in one tick", x, "0 1 1 50 1 -1 0; 7 1 1 50 1 -1 1; 31 1 1 50 1 -1 2;");
        });
        s.test("Without steps nothing is observed.", this::nothingObserved);
    }

    private void nothingObserved() {
        OccupancyMonitor x = new OccupancyMonitor();
        x.setLevels(90, 0);
        x.run(2000);
        s.dueText("observed without a plan", observed(x), "");
        s.due("events() without a plan", x.events(), 0);
        s.due("average(0) without a plan", x.average(0), -1);
        OccupancyMonitor y = Checks.withPlan("5:1;");
        y.setLevels(90, 0);
        y.run(3);
        Checks.parse(y, "");
        y.setLevels(0, 0);
        y.run(7);
        s.dueText("observed after the plan was emptied", observed(y), "5=3");
        s.dueEvents("after the plan was emptied", y, "5 1 3 90 1 -1 0;");
    }

    private void planText() {
        s.at("Plan text");
        s.test("The text has at most 100 bytes.", () -> {
            duePlan(HUNDRED, 12, HUNDRED);
            dueError(HUNDRED.substring(0, 99), 99);
            dueError(HUNDRED.substring(0, 99) + "x", 99);
            s.refusedState("a byte behind 100", FULL_TEXT, x -> x.append(' '));
        });
        s.test("It consists of any number of steps, each terminated by a semicolon", () -> {
            duePlan("", 0, "");
            duePlan("1:2;", 1, "1:2;");
            duePlan("1:2;3:4;", 2, "1:2;3:4;");
            duePlan(TWELVE, 12, TWELVE);
            dueError("1:2", 3);
            dueError("1:2;3:4", 7);
            dueError("1:2,3:4;", 3);
            dueError(";", 0);
            dueError("1:2;;", 4);
        });
        s.test("a channel, optionally a minus sign and another channel that is not lower, a colon, and the dwell",
                this::stepForms);
        s.test("Numbers have one or two digits.", this::digits);
        s.test("Spaces (byte 32) may stand before a step and after its semicolon, nowhere else.", this::spaces);
        s.test("The syntax error position is the index of the first byte that cannot stand where it stands",
                this::wrongBytes);
        s.test("or the length of the text if the text ends too early", this::earlyEnds);
        s.test("For a number that is out of range (a channel above 31", () -> {
            duePlan("31:1;", 1, "31:1;");
            dueError("32:1;", 0);
            dueError("99:1;", 0);
            duePlan("0-31:1;", 1, "0-31:1;");
            dueError("0-32:1;", 2);
            dueError("31-32:1;", 3);
            dueError("32-33:1;", 0);
            dueError("1:1; 32:1;", 5);
        });
        s.test("a second channel that is lower than the first one", () -> {
            duePlan("9-9:1;", 1, "9:1;");
            duePlan("8-9:1;", 1, "8-9:1;");
            dueError("9-8:1;", 2);
            dueError("10-9:1;", 3);
            dueError("10-09:1;", 3);
            dueError("31-30:1;", 3);
            dueError("1-0:1;", 2);
            dueError("1-00:1;", 2);
        });
        s.test("a dwell of 0 or above 20", () -> {
            duePlan("5:1;", 1, "5:1;");
            duePlan("5:20;", 1, "5:20;");
            dueError("5:0;", 2);
            dueError("5:00;", 2);
            dueError("5:21;", 2);
            dueError("5:99;", 2);
            dueError("5-6:21;", 4);
            dueError("05-06:00;", 6);
        });
        s.test("it is the index of its first digit, found when the number is complete (a byte that is no digit, or"
                + " the end of the text, follows it)", this::completeNumbers);
        s.test("for a third digit it is the index of this digit", () -> {
            dueError("001:1;", 2);
            dueError("312:1;", 2);
            dueError("321:1;", 2);
            dueError("999", 2);
            dueError("1-002:1;", 4);
            dueError("9-081:1;", 4);
            dueError("9-999", 4);
            dueError("10-319:1;", 5);
            dueError("1:001;", 4);
            dueError("1:000;", 4);
            dueError("1:201;", 4);
            dueError("1:999", 4);
            dueError("1:1000;", 4);
        });
        s.test("A thirteenth step is an error at its first digit.", this::thirteenthStep);
        s.test("The plan is written as a text in the same way, without spaces, with a minus sign and the second"
                + " channel only if the channels differ, and without leading zeros.", () -> {
            duePlan("  1:1;  2:2;  ", 2, "1:1;2:2;");
            duePlan("4-4:1;4-5:1;", 2, "4:1;4-5:1;");
            duePlan("04-4:1;4-04:1;", 2, "4:1;4:1;");
            duePlan("00-00:01;", 1, "0:1;");
            duePlan("00-01:09;", 1, "0-1:9;");
            duePlan("09-10:10;", 1, "9-10:10;");
            duePlan("10-20:20;", 1, "10-20:20;");
        });
    }

    private void stepForms() {
        duePlan("5:1;", 1, "5:1;");
        duePlan("5-6:1;", 1, "5-6:1;");
        duePlan("5-5:1;", 1, "5:1;");
        duePlan("0-31:1;", 1, "0-31:1;");
        dueError("5-4:1;", 2);
        dueError(":1;", 0);
        dueError("-5:1;", 0);
        dueError("5-:1;", 2);
        dueError("5--6:1;", 2);
        dueError("5-6-7:1;", 3);
        dueError("5;", 1);
        dueError("5-6;", 3);
        dueError("5:;", 2);
        dueError("5::1;", 2);
        dueError("5:1:1;", 3);
        dueError("5:1-2;", 3);
        dueError("5:-1;", 2);
        dueError("+5:1;", 0);
    }

    private void digits() {
        duePlan("1-2:3;", 1, "1-2:3;");
        duePlan("01-02:03;", 1, "1-2:3;");
        duePlan("11-12:13;", 1, "11-12:13;");
        duePlan("1-12:3;", 1, "1-12:3;");
        dueError(":3;", 0);
        dueError("1-:3;", 2);
        dueError("1-2:;", 4);
        dueError("001-2:3;", 2);
        dueError("1-002:3;", 4);
        dueError("1-2:003;", 6);
        for (int number = 0; number <= 99; number++) {
            everyNumber(number);
        }
    }

    private void everyNumber(int number) {
        if (number <= 31) {
            duePlan(number + ":1;", 1, number + ":1;");
            duePlan(number + "-31:1;", 1, number == 31 ? "31:1;" : number + "-31:1;");
            duePlan("0-" + number + ":1;", 1, number == 0 ? "0:1;" : "0-" + number + ":1;");
        } else {
            dueError(number + ":1;", 0);
            dueError("0-" + number + ":1;", 2);
        }
        if (number >= 1 && number <= 20) {
            duePlan("5:" + number + ";", 1, "5:" + number + ";");
        } else {
            dueError("5:" + number + ";", 2);
        }
        if (number <= 9) {
            duePlan("0" + number + ":1;", 1, number + ":1;");
        }
    }

    private void spaces() {
        String step = "01-20:15;";
        duePlan(" " + step, 1, "1-20:15;");
        duePlan(step + " ", 1, "1-20:15;");
        duePlan("   " + step + "   " + step + "   ", 2, "1-20:15;1-20:15;");
        duePlan(" ".repeat(91) + step, 1, "1-20:15;");
        duePlan(step + " ".repeat(91), 1, "1-20:15;");
        for (int index = 1; index < step.length(); index++) {
            dueError(step.substring(0, index) + " " + step.substring(index), index);
        }
        for (char other : new char[] {0, 9, 10, 13, 31, 33, 127}) {
            dueError(other + step, 0);
            dueError(" " + other + step, 1);
            dueError(step + other, 9);
        }
        dueError(" ;", 1);
        dueError(step + " ;", 10);
        // No step stands behind these spaces; the shared tests ask for a plan without steps here.
        duePlan(" ", 0, "");
        duePlan(" ".repeat(100), 0, "");
    }

    /** Behind this beginning none of these bytes can stand, whatever follows. */
    private void dueWrongBehind(String begin, String bytes) {
        for (char wrong : bytes.toCharArray()) {
            dueError(begin + wrong, begin.length());
            dueError(begin + wrong + "x1:1;", begin.length());
        }
    }

    /** In each place of a step: the bytes beside the digits and the signs, and those of other places. */
    private void wrongBytes() {
        dueWrongBehind("", "/:;-,x\0\177");
        dueWrongBehind("1", "/;,.<x\0");
        dueWrongBehind("01", "/;,.<x");
        dueWrongBehind("1-", "/:;-x\0");
        dueWrongBehind("1-2", "/;<-,x");
        dueWrongBehind("01-20", "/;<-,x");
        dueWrongBehind("1:", "/:;-x\0");
        dueWrongBehind("1:2", "/:<-,x");
        dueWrongBehind("1:20", "/:<-,x\0");
        dueWrongBehind("1:2;", "/:;-x");
        dueWrongBehind("1-2:3; 4:05; ", "/:;-x");
    }

    private void earlyEnds() {
        String step = "01-31:20;";
        for (int length = 1; length < step.length(); length++) {
            dueError(step.substring(0, length), length);
            dueError(" " + step + step.substring(0, length), 10 + length);
        }
        duePlan(step, 1, "1-31:20;");
        dueError(" ".repeat(99) + "1", 100);
        dueError(" ".repeat(96) + "1:20", 100);
        duePlan(" ".repeat(96) + "1:2;", 1, "1:2;");
    }

    private void completeNumbers() {
        dueError("32", 0);
        dueError("32x", 0);
        dueError("32 ", 0);
        dueError("32;", 0);
        dueError("32-", 0);
        dueError("32-x", 0);
        dueError(" 32", 1);
        dueError("9-8", 2);
        dueError("9-8x", 2);
        dueError("9-8-", 2);
        dueError("12-1", 3);
        dueError("12-11", 3);
        dueError("0-32", 2);
        dueError("0-99x", 2);
        dueError("1:0", 2);
        dueError("1:0x", 2);
        dueError("1:00", 2);
        dueError("1:21", 2);
        dueError("1:21 ;", 2);
        // These are in range when they are complete, though not before.
        duePlan("12-13:1;", 1, "12-13:1;");
        duePlan("1:01;", 1, "1:1;");
        duePlan("1:02;", 1, "1:2;");
        // These are in range: the byte behind them is the first one that is wrong.
        dueError("31x", 2);
        dueError("9-9x", 3);
        dueError("1:1x", 3);
        dueError("1:20x", 4);
    }

    private void thirteenthStep() {
        duePlan(TWELVE, 12, TWELVE);
        duePlan(TWELVE + " ".repeat(52), 12, TWELVE);
        dueError(TWELVE + "1:1;", 48);
        dueError(TWELVE + "1", 48);
        dueError(TWELVE + "   1:1;", 51);
        dueError(TWELVE + " 321", 49);
        dueError(TWELVE + "32:1;", 48);
        dueError(TWELVE + " 1x", 49);
        dueError(TWELVE + "x", 48);
        dueError("1:1;".repeat(25), 48);
        dueError("1:1;".repeat(11) + "1:0;1:1;", 46);
    }

    private void dueRevisit(String plan, int channel, int want) {
        s.due("revisit(" + channel + ") of " + plan, Checks.withPlan(plan).revisit(channel), want);
    }

    private void revisitTime() {
        s.at("Revisit time");
        s.test("While the plan is gone through again and again", () -> {
            dueRevisit("1:1;", 1, 1);
            dueRevisit("1:20;", 1, 1);
            dueRevisit("1:1;2:1;", 1, 2);
            dueRevisit("1:1;2:20;", 1, 21);
            dueRevisit("2:20;1:1;", 1, 21);
            dueRevisit("2:20;1:1;3:20;", 1, 41);
            dueRevisit("1:1;" + "2:20;".repeat(11), 1, 221);
            dueRevisit("2:20;".repeat(11) + "1:1;", 1, 221);
            dueRevisit("2:20;".repeat(5) + "1:20;" + "2:20;".repeat(6), 1, 221);
        });
        s.test("the revisit time of a channel is the greatest number of ticks from an observation of the channel to"
                + " the next one", () -> {
            dueRevisit("1:3;1:2;", 1, 1);
            dueRevisit("1-2:5;2-3:7;", 2, 1);
            dueRevisit("1-2:5;2-3:7;", 1, 8);
            dueRevisit("1-2:5;2-3:7;", 3, 6);
            dueRevisit("1:1;2:4;1:1;2:5;", 1, 6);
            dueRevisit("1:1;2:5;1:1;2:4;", 1, 6);
            dueRevisit("2:4;1:1;3:5;1:1;", 1, 6);
            dueRevisit("2:6;1:1;3:3;1:1;2:7;", 1, 14);
            dueRevisit("1:1;2:4;3:5;1:1;0-1:1;9:7;8:2;", 1, 10);
        });
    }

    // ---- Promise 8

    private void append() {
        s.at("Promise 8");
        s.test("Appends a byte to the text.", () -> {
            OccupancyMonitor x = new OccupancyMonitor();
            for (char sign : "12-13:14;".toCharArray()) {
                x.append(sign);
            }
            s.due("parsePlan()", x.parsePlan(), 1);
            s.dueText("the plan", Checks.written(x), "12-13:14;");
            x.append(' ');
            x.append('x');
            s.due("parsePlan() of one byte more", x.parsePlan(), -20);
        });
        s.test("`value`: the byte, 0 to 127", () -> {
            s.accepted("append(0)", FRESH, x -> x.append(0), 1);
            s.accepted("append(127)", FRESH, x -> x.append(127), 1);
            s.refusedArgument("append(-1)", BUSY, x -> x.append(-1));
            s.refusedArgument("append(128)", BUSY, x -> x.append(128));
        });
        s.test("Returns the new length of the text.", () -> {
            OccupancyMonitor x = new OccupancyMonitor();
            for (int length = 1; length <= 100; length++) {
                s.due("append(48) number " + length, x.append(48), length);
            }
        });
        s.test("Throws `IllegalArgumentException` if value is out of range", () -> {
            for (int wrong : new int[] {LEAST, -1, 128, 128 + ' ', 256 + ' ', GREATEST}) {
                s.refusedArgument("append(" + wrong + ")", BUSY, x -> x.append(wrong));
                s.refusedArgument("append(" + wrong + ") to 100 bytes", FULL_TEXT, x -> x.append(wrong));
            }
        });
        s.test("Throws `IllegalStateException` if the text has 100 bytes", () -> {
            s.accepted("append to 99 bytes", () -> typed(" ".repeat(99)), x -> x.append(32), 100);
            s.refusedState("append to 100 bytes", FULL_TEXT, x -> x.append(32));
            s.refusedState("append(0) to 100 bytes", FULL_TEXT, x -> x.append(0));
            s.refusedState("append(127) to 100 bytes", FULL_TEXT, x -> x.append(127));
            OccupancyMonitor x = FULL_TEXT.make();
            x.clearText();
            s.due("append to the emptied text", x.append(48), 1);
        });
    }

    // ---- Promise 9

    private void clearText() {
        s.at("Promise 9");
        s.test("Empties the text.", () -> {
            OccupancyMonitor x = FULL_TEXT.make();
            x.clearText();
            s.due("clearText() again", x.clearText(), 0);
            s.due("parsePlan()", x.parsePlan(), 0);
            OccupancyMonitor y = typed("1:1;");
            y.clearText();
            Checks.type(y, "2:");
            s.due("parsePlan() of a shorter text", y.parsePlan(), -12);
            OccupancyMonitor z = BUSY.make();
            z.clearText();
            s.dueText("the plan stays", Checks.written(z), "0-9:3;5-20:4;");
            s.due("no state is saved", z.undo(), 3);
        });
        s.test("Returns the length that it had.", () -> {
            s.accepted("clearText() of an empty text", FRESH, x -> x.clearText(), 0);
            s.accepted("clearText() of one byte", () -> typed("x"), x -> x.clearText(), 1);
            s.accepted("clearText() of 100 bytes", FULL_TEXT, x -> x.clearText(), 100);
        });
    }

    // ---- Promise 10

    private void parsePlan() {
        s.at("Promise 10");
        s.test("Makes the text the plan", () -> {
            duePlan("1:2; 3-04:05;", 2, "1:2;3-4:5;");
            duePlan("", 0, "");
            duePlan(HUNDRED, 12, HUNDRED);
        });
        s.test("the monitor begins with step 0", () -> {
            OccupancyMonitor x = Checks.withPlan("1:3;2:3;");
            x.run(5);
            x.parsePlan();
            dueSteps(x, 0, 0, 0, 1);
            OccupancyMonitor y = Checks.withPlan("1:3;2:3;");
            y.run(2);
            Checks.parse(y, "3:2;4:3;");
            dueSteps(y, 0, 0, 1);
            OccupancyMonitor z = Checks.withPlan(TWELVE);
            z.run(11);
            Checks.parse(z, "3:2;");
            dueSteps(z, 0, 0, 0);
            s.due("the tick stays", z.run(0), 14);
        });
        s.test("The text stays as it is.", () -> {
            OccupancyMonitor x = typed(" 1:2;");
            x.parsePlan();
            s.due("append() behind it", x.append('x'), 6);
            s.due("parsePlan() with an error", x.parsePlan(), -15);
            s.due("append() behind that", x.append('x'), 7);
            s.due("parsePlan() with the same error", x.parsePlan(), -15);
            s.due("clearText()", x.clearText(), 7);
        });
        s.test("Undoable, if there is no syntax error.", () -> {
            s.saves("parsePlan()", ROOMY, x -> x.parsePlan());
            s.saves("parsePlan() of the same plan", () -> Checks.withPlan("1:1;"), x -> x.parsePlan());
            s.saves("parsePlan() of an empty text", FRESH, x -> x.parsePlan());
            OccupancyMonitor x = FRESH.make();
            x.append('x');
            x.parsePlan();
            s.due("states saved by an error", Sentences.savedStates(x), 0);
        });
        s.test("Returns the number of steps", () -> {
            s.due("of 0 steps", typed("").parsePlan(), 0);
            s.due("of 1 step", typed("1:1;").parsePlan(), 1);
            s.due("of 12 steps", typed(TWELVE).parsePlan(), 12);
        });
        s.test("-10 minus the syntax error position if there is a syntax error (then nothing changes)", () -> {
            dueError("x", 0);
            dueError("1", 1);
            dueError(" ".repeat(99) + "x", 99);
            dueError(" ".repeat(99) + "1", 100);
            dueError("4:4;5:5;6", 9);
        });
    }

    // ---- Promises 11 to 14

    private void steps() {
        s.at("Promise 11");
        s.test("Returns the number of steps of the plan.", () -> {
            s.accepted("steps() of a new object", FRESH, x -> x.steps(), 0);
            s.accepted("steps() of one step", () -> Checks.withPlan("1:1;"), x -> x.steps(), 1);
            s.accepted("steps() of twelve steps", () -> Checks.withPlan(TWELVE), x -> x.steps(), 12);
            s.accepted("steps() of a text that is not parsed", () -> typed(TWELVE), x -> x.steps(), 2);
            s.unchanged("steps()", BUSY, x -> x.steps());
        });
        s.test("Returns the number of steps.", () -> {
            OccupancyMonitor x = Checks.withPlan(TWELVE);
            Checks.parse(x, "1:1;");
            s.due("steps() of a shorter plan", x.steps(), 1);
            Checks.parse(x, "1:1;2");
            s.due("steps() after an error", x.steps(), 1);
            Checks.parse(x, " ");
            s.due("steps() of an empty plan", x.steps(), 0);
        });
    }

    private void step() {
        Sentences.Setup three = () -> Checks.withPlan("3-9:4;31:20;0-31:1;");
        s.at("Promise 12");
        s.test("Describes a step of the plan.", () -> s.unchanged("step(0, 0)", BUSY, x -> x.step(0, 0)));
        s.test("`step`: number of the step", () -> {
            s.accepted("step(0, 2) of three", three, x -> x.step(0, 2), 4);
            s.accepted("step(2, 2) of three", three, x -> x.step(2, 2), 1);
            s.refusedIndex("step(-1, 2) of three", three, x -> x.step(-1, 2));
            s.refusedIndex("step(3, 2) of three", three, x -> x.step(3, 2));
        });
        s.test("`what`: 0 its lowest channel, 1 its highest channel, 2 its dwell", () -> {
            s.accepted("step(0, 0)", three, x -> x.step(0, 0), 3);
            s.accepted("step(0, 1)", three, x -> x.step(0, 1), 9);
            s.accepted("step(0, 2)", three, x -> x.step(0, 2), 4);
            s.refusedArgument("step(0, -1)", three, x -> x.step(0, -1));
            s.refusedArgument("step(0, 3)", three, x -> x.step(0, 3));
        });
        s.test("Returns that value.", () -> {
            s.accepted("step(1, 0), a single channel", three, x -> x.step(1, 0), 31);
            s.accepted("step(1, 1), a single channel", three, x -> x.step(1, 1), 31);
            s.accepted("step(1, 2), the longest dwell", three, x -> x.step(1, 2), 20);
            s.accepted("step(2, 0), the lowest channel", three, x -> x.step(2, 0), 0);
            s.accepted("step(2, 1), the highest channel", three, x -> x.step(2, 1), 31);
        });
        s.test("Throws `IndexOutOfBoundsException` if there is no such step", () -> {
            s.refusedIndex("step(0, 0) of none", FRESH, x -> x.step(0, 0));
            s.accepted("step(11, 0) of twelve", () -> Checks.withPlan(TWELVE), x -> x.step(11, 0), 1);
            s.refusedIndex("step(12, 0) of twelve", () -> Checks.withPlan(TWELVE), x -> x.step(12, 0));
            for (int wrong : new int[] {LEAST, -1, 2, GREATEST}) {
                s.refusedIndex("step(" + wrong + ", 0)", BUSY, x -> x.step(wrong, 0));
                s.refusedIndex("step(" + wrong + ", 3)", BUSY, x -> x.step(wrong, 3));
            }
        });
        s.test("Throws `IllegalArgumentException` if what is out of range", () -> {
            for (int wrong : new int[] {LEAST, -1, 3, GREATEST}) {
                s.refusedArgument("step(1, " + wrong + ")", BUSY, x -> x.step(1, wrong));
            }
        });
    }

    private void planByte() {
        s.at("Promise 13");
        s.test("Returns a byte of the plan written as a text.", () -> {
            OccupancyMonitor x = Checks.withPlan(" 08-12:03; 7-07:10;");
            String want = "8-12:3;7:10;";
            for (int index = 0; index < want.length(); index++) {
                s.due("planByte(" + index + ")", x.planByte(index), want.charAt(index));
            }
            s.unchanged("planByte(0)", BUSY, y -> y.planByte(0));
        });
        s.test("`index`: index of the byte, from 0", () -> {
            s.accepted("planByte(0)", BUSY, x -> x.planByte(0), '0');
            s.refusedArgument("planByte(-1)", BUSY, x -> x.planByte(-1));
        });
        s.test("Returns the byte; NONE if the text of the plan has not so many bytes.", () -> {
            s.accepted("planByte(0) of no steps", FRESH, x -> x.planByte(0), -1);
            s.accepted("planByte(12) of 13 bytes", BUSY, x -> x.planByte(12), ';');
            s.accepted("planByte(13) of 13 bytes", BUSY, x -> x.planByte(13), -1);
            s.accepted("planByte(99) of 100 bytes", () -> Checks.withPlan(HUNDRED), x -> x.planByte(99), ';');
            s.accepted("planByte(100) of 100 bytes", () -> Checks.withPlan(HUNDRED), x -> x.planByte(100), -1);
            s.accepted("planByte(greatest)", BUSY, x -> x.planByte(GREATEST), -1);
            OccupancyMonitor x = Checks.withPlan(HUNDRED);
            x.planByte(0);
            Checks.parse(x, "1:1;");
            s.due("planByte(3) of a shorter plan", x.planByte(3), ';');
            s.due("planByte(4) of a shorter plan", x.planByte(4), -1);
            x.undo();
            s.due("planByte(4) after undo", x.planByte(4), '1');
        });
        s.test("Throws `IllegalArgumentException` if index is negative", () -> {
            s.refusedArgument("planByte(-1)", BUSY, x -> x.planByte(-1));
            s.refusedArgument("planByte(-1) of no steps", FRESH, x -> x.planByte(-1));
            s.refusedArgument("planByte(least)", BUSY, x -> x.planByte(LEAST));
        });
    }

    private void revisit() {
        s.at("Promise 14");
        s.test("Returns the revisit time of a channel.", () -> {
            OccupancyMonitor x = Checks.withPlan("1:2;2:3;");
            for (int tick = 0; tick < 6; tick++) {
                s.due("revisit(1) at tick " + tick, x.revisit(1), 4);
                s.due("revisit(2) at tick " + tick, x.revisit(2), 3);
                x.run(1);
            }
            s.unchanged("revisit(1)", BUSY, y -> y.revisit(1));
        });
        s.test("`channel`: 0 to 31", () -> {
            dueRevisit("0:1;31:2;", 0, 3);
            dueRevisit("0:1;31:2;", 31, 2);
            s.refusedIndex("revisit(-1)", BUSY, x -> x.revisit(-1));
            s.refusedIndex("revisit(32)", BUSY, x -> x.revisit(32));
        });
        s.test("Returns the revisit time; NONE if no step has the channel.", () -> {
            s.accepted("revisit(0) of no steps", FRESH, x -> x.revisit(0), -1);
            dueRevisit("4-6:2;9:1;", 3, -1);
            dueRevisit("4-6:2;9:1;", 4, 2);
            dueRevisit("4-6:2;9:1;", 6, 2);
            dueRevisit("4-6:2;9:1;", 7, -1);
            dueRevisit("4-6:2;9:1;", 8, -1);
            dueRevisit("4-6:2;9:1;", 9, 3);
            dueRevisit("4-6:2;9:1;", 10, -1);
            OccupancyMonitor x = Checks.withPlan("1:1;");
            Checks.parse(x, "2:1;");
            s.due("revisit(1) of the plan before", x.revisit(1), -1);
        });
        s.test("Throws `IndexOutOfBoundsException` if there is no such channel", () -> {
            for (int wrong : new int[] {LEAST, -1, 32, GREATEST}) {
                s.refusedIndex("revisit(" + wrong + ")", BUSY, x -> x.revisit(wrong));
                s.refusedIndex("revisit(" + wrong + ") of no steps", FRESH, x -> x.revisit(wrong));
            }
        });
    }
}
