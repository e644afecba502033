/** Promises 8 to 14: the plan text and the plan. */
public final class PlanTests {
    private static final Checks CHECKS = new Checks();

    public static void main(String[] args) {
        append();
        clearText();
        goodTexts();
        badTexts();
        thirteenthStep();
        parsePlan();
        step();
        planByte();
        revisit();
        CHECKS.finish();
    }

    private static void append() {
        OccupancyMonitor x = new OccupancyMonitor();
        CHECKS.dueThrows("append(-1)", x, Checks.ARGUMENT, () -> x.append(-1));
        CHECKS.dueThrows("append(128)", x, Checks.ARGUMENT, () -> x.append(128));
        CHECKS.due("append(0)", x.append(0), 1);
        CHECKS.due("append(127)", x.append(127), 2);
        for (int length = 3; length <= 100; length++) {
            CHECKS.due("append(32)", x.append(32), length);
        }
        CHECKS.dueThrows("append(32) to 100 bytes", x, Checks.STATE, () -> x.append(32));
        CHECKS.dueThrows("append(128) to 100 bytes", x, Checks.ARGUMENT, () -> x.append(128));
        CHECKS.dueThrows("append saves no state", x, Checks.STATE, () -> x.undo());
        CHECKS.due("clearText() of 100 bytes", x.clearText(), 100);
        CHECKS.due("append(48) after clearText()", x.append(48), 1);
    }

    private static void clearText() {
        OccupancyMonitor x = Checks.withPlan("5:1;");
        CHECKS.due("clearText()", x.clearText(), 4);
        CHECKS.due("clearText()", x.clearText(), 0);
        CHECKS.due("clearText leaves the plan", x.steps(), 1);
        x.append('7');
        CHECKS.due("undo after clearText", x.undo(), 0);
        CHECKS.due("undo leaves the text", x.clearText(), 1);
    }

    private static void goodText(String text, int steps, String written) {
        OccupancyMonitor x = new OccupancyMonitor();
        CHECKS.due("parsePlan of '" + text + "'", Checks.parse(x, text), steps);
        CHECKS.due("steps of '" + text + "'", x.steps(), steps);
        CHECKS.dueText("written plan of '" + text + "'", Checks.written(x), written);
        CHECKS.due("text length of '" + text + "'", x.clearText(), text.length());
    }

    private static void goodTexts() {
        goodText("", 0, "");
        goodText(" ", 0, "");
        goodText("    ", 0, "");
        goodText("0:1;", 1, "0:1;");
        goodText("31:20;", 1, "31:20;");
        goodText("00:01;", 1, "0:1;");
        goodText("  05-09:07;  ", 1, "5-9:7;");
        goodText("5-5:1;", 1, "5:1;");
        goodText("5-05:1;", 1, "5:1;");
        goodText("0-31:20;", 1, "0-31:20;");
        goodText("1:1;2:2;", 2, "1:1;2:2;");
        goodText("1:1;   10-20:10; 3-4:4;", 3, "1:1;10-20:10;3-4:4;");
        goodText("1:1; 1:1; 1:1;", 3, "1:1;1:1;1:1;");
        goodText("10-31:20;10-31:20;10-31:20;10-31:20;10-31:20;10-31:20;"
                + "10-31:20;10-31:20;10-31:20;10-31:20;10-31:20;", 11,
                "10-31:20;10-31:20;10-31:20;10-31:20;10-31:20;10-31:20;"
                + "10-31:20;10-31:20;10-31:20;10-31:20;10-31:20;");
    }

    private static void badText(String text, int position) {
        OccupancyMonitor x = Checks.withPlan("7-8:2;9:3;");
        x.run(3);
        x.clearText();
        for (int index = 0; index < text.length(); index++) {
            x.append(text.charAt(index));
        }
        long before = x.digest();
        CHECKS.due("parsePlan of '" + text + "'", x.parsePlan(), -10 - position);
        CHECKS.due("digest after the error in '" + text + "'", x.digest(), before);
        CHECKS.dueText("plan after the error in '" + text + "'", Checks.written(x), "7-8:2;9:3;");
        CHECKS.due("undo() after the error in '" + text + "'", x.undo(), 1);
    }

    private static void badTexts() {
        // A byte that cannot stand where it stands.
        badText("a", 0);
        badText(";", 0);
        badText("-1:1;", 0);
        badText(":1;", 0);
        badText("  x", 2);
        badText("\u0000", 0);
        badText("/", 0);
        badText("5/", 1);
        badText("1;", 1);
        badText("1 :1;", 1);
        badText("1 -2:1;", 1);
        badText("1- 2:1;", 2);
        badText("1-:1;", 2);
        badText("1--2:1;", 2);
        badText("1-2-3:1;", 3);
        badText("1-2 :1;", 3);
        badText("1-2;", 3);
        badText("1: 1;", 2);
        badText("1::1;", 2);
        badText("1:;", 2);
        badText("1:-1;", 2);
        badText("1:1 ;", 3);
        badText("1:1:", 3);
        badText("1:1-2;", 3);
        badText("1:1;;", 4);
        badText("1:1; ;", 5);
        badText("1:1;\t2:1;", 4);
        badText("1:1;2:1;x", 8);
        // A text that ends too early.
        badText("1", 1);
        badText("12", 2);
        badText("1-", 2);
        badText("1-2", 3);
        badText("1-12", 4);
        badText("1:", 2);
        badText("1:1", 3);
        badText("1:20", 4);
        badText("1:1; 2", 6);
        // A number out of range, at its first digit when it is complete.
        badText("32:1;", 0);
        badText("32", 0);
        badText("32x", 0);
        badText("99-", 0);
        badText(" 40 ", 1);
        badText("0-32:1;", 2);
        badText("0-32", 2);
        badText("9-8:1;", 2);
        badText("9-8", 2);
        badText("9-8x", 2);
        badText("12-1:1;", 3);
        badText("12-11", 3);
        badText("1:0;", 2);
        badText("1:0", 2);
        badText("1:00;", 2);
        badText("1:0x", 2);
        badText("1:21;", 2);
        badText("1:99", 2);
        badText("1-2:21 ;", 4);
        badText("31:20; 3-2:1;", 9);
        // A third digit, whatever the first two are.
        badText("001:1;", 2);
        badText("321:1;", 2);
        badText("0-312:1;", 4);
        badText("9-812:1;", 4);
        badText("1:001;", 4);
        badText("1:999", 4);
        badText("1:1000;", 4);
    }

    private static void thirteenthStep() {
        String twelve = "1:1;".repeat(12);
        goodText(twelve, 12, twelve);
        goodText(twelve + "  ", 12, twelve);
        badText(twelve + "1:1;", 48);
        badText(twelve + "  9", 50);
        badText(twelve + " 321", 49);
        badText(twelve + "x", 48);
        badText("1:1;".repeat(11) + "1:1", 47);
        badText("1:1;".repeat(20), 48);
    }

    private static void parsePlan() {
        OccupancyMonitor x = new OccupancyMonitor();
        CHECKS.due("parsePlan()", Checks.parse(x, "1:2;2:2;"), 2);
        x.run(3);
        CHECKS.due("presentStep()", x.presentStep(), 1);
        CHECKS.due("parsePlan() again", x.parsePlan(), 2);
        CHECKS.due("parsePlan begins with step 0", x.presentStep(), 0);
        x.run(1);
        CHECKS.due("parsePlan begins the dwell anew", x.presentStep(), 0);
        CHECKS.due("undo() of run", x.undo(), 3);
        CHECKS.due("undo() of parsePlan", x.undo(), 2);
        CHECKS.due("presentStep() after undo", x.presentStep(), 1);
        x.run(1);
        CHECKS.due("the dwell after undo", x.presentStep(), 0);
        CHECKS.due("parsePlan() of no steps", Checks.parse(x, ""), 0);
        CHECKS.due("presentStep() without steps", x.presentStep(), -1);
        CHECKS.due("parsePlan() keeps the tick", x.run(0), 4);
        CHECKS.due("undo() of run(0)", x.undo(), 3);
        CHECKS.due("undo() of the empty plan", x.undo(), 2);
        CHECKS.dueText("plan after undo", Checks.written(x), "1:2;2:2;");
    }

    private static void step() {
        OccupancyMonitor x = Checks.withPlan("3-9:4;31:20;0-0:1;");
        CHECKS.due("steps()", x.steps(), 3);
        int[][] due = {{3, 9, 4}, {31, 31, 20}, {0, 0, 1}};
        for (int step = 0; step < due.length; step++) {
            for (int what = 0; what < 3; what++) {
                CHECKS.due("step(" + step + ", " + what + ")", x.step(step, what), due[step][what]);
            }
        }
        CHECKS.dueThrows("step(-1, 0)", x, Checks.INDEX, () -> x.step(-1, 0));
        CHECKS.dueThrows("step(3, 0)", x, Checks.INDEX, () -> x.step(3, 0));
        CHECKS.dueThrows("step(3, 3)", x, Checks.INDEX, () -> x.step(3, 3));
        CHECKS.dueThrows("step(2, 3)", x, Checks.ARGUMENT, () -> x.step(2, 3));
        CHECKS.dueThrows("step(0, -1)", x, Checks.ARGUMENT, () -> x.step(0, -1));
    }

    private static void planByte() {
        OccupancyMonitor x = Checks.withPlan(" 08-12:03; 7-7:10;");
        String due = "8-12:3;7:10;";
        for (int index = 0; index < due.length(); index++) {
            CHECKS.due("planByte(" + index + ")", x.planByte(index), due.charAt(index));
        }
        CHECKS.due("planByte(12)", x.planByte(12), -1);
        CHECKS.due("planByte(1000)", x.planByte(1000), -1);
        CHECKS.due("planByte(greatest)", x.planByte(Integer.MAX_VALUE), -1);
        CHECKS.dueThrows("planByte(-1)", x, Checks.ARGUMENT, () -> x.planByte(-1));
        CHECKS.dueThrows("planByte(least)", x, Checks.ARGUMENT, () -> x.planByte(Integer.MIN_VALUE));
        Checks.parse(x, "1:1;");
        CHECKS.due("planByte(4) of a shorter plan", x.planByte(4), -1);
        CHECKS.due("planByte(3) of a shorter plan", x.planByte(3), ';');
    }

    private static void revisit() {
        revisitOf("5:1;", 5, 1);
        revisitOf("5:20;", 5, 1);
        revisitOf("5:20;", 4, -1);
        revisitOf("0-31:3;", 31, 1);
        revisitOf("1:2;2:3;", 1, 4);
        revisitOf("1:2;2:3;", 2, 3);
        revisitOf("1:2;2:3;", 3, -1);
        revisitOf("1-2:5;2-3:7;", 2, 1);
        revisitOf("1-2:5;2-3:7;", 1, 8);
        revisitOf("1-2:5;2-3:7;", 3, 6);
        // Channel 1 in steps 0, 3 and 4: the ways are 4 + 5 + 1, 1 and 7 + 2 + 1.
        revisitOf("1:2;2:4;3:5;1:1;0-1:1;9:7;8:2;", 1, 10);
        // The longest way leads over the end of the plan.
        revisitOf("9:20;1:1;9:3;1:1;9:20;", 1, 41);
        // The longest way lies within the plan.
        revisitOf("1:1;9:20;9:20;1:1;9:3;", 1, 41);
        revisitOf("1:1;" + "2:20;".repeat(11), 1, 221);
        OccupancyMonitor x = Checks.withPlan("1:2;2:3;");
        x.run(4);
        CHECKS.due("revisit(1) in the middle of the plan", x.revisit(1), 4);
        CHECKS.dueThrows("revisit(-1)", x, Checks.INDEX, () -> x.revisit(-1));
        CHECKS.dueThrows("revisit(32)", x, Checks.INDEX, () -> x.revisit(32));
    }

    private static void revisitOf(String plan, int channel, int due) {
        OccupancyMonitor x = Checks.withPlan(plan);
        CHECKS.due("revisit(" + channel + ") of " + plan, x.revisit(channel), due);
    }
}
