import java.util.Random;

/** Long runs of calls, drawn from fixed seeds, on OccupancyMonitor and on the plain model of the document. */
public final class ModelTests {
    private static final int RUNS = 400;
    /** An object is used for 512 calls; the last turn of a run may make some 140 more. */
    private static final int CALLS = 370;
    private static final Checks CHECKS = new Checks();

    private final Random random;
    private final String name;
    private final OccupancyMonitor x = new OccupancyMonitor();
    private final PlainModel model = new PlainModel();
    private int calls;

    private ModelTests(int seed) {
        random = new Random(seed);
        name = "seed " + seed + ", ";
    }

    public static void main(String[] args) {
        for (int seed = 0; seed < RUNS; seed++) {
            new ModelTests(seed).play();
        }
        CHECKS.finish();
    }

    private void play() {
        while (calls < CALLS) {
            switch (random.nextInt(12)) {
                case 0 -> signal();
                case 1 -> settings();
                case 2 -> plan();
                case 3, 4, 5, 6 -> time();
                case 7 -> channel();
                case 8, 9 -> eventsAndChains();
                default -> state();
            }
        }
    }

    private void due(String call, long got, long want) {
        calls++;
        CHECKS.due(name + "call " + calls + ", " + call, got, want);
    }

    private void dueDouble(String call, double got, double want) {
        calls++;
        CHECKS.dueDouble(name + "call " + calls + ", " + call, got, want);
    }

    private void dueState(String call, Checks.Call made) {
        calls += 3;
        CHECKS.dueThrows(name + "call " + calls + ", " + call, x, Checks.STATE, made);
    }

    /** From least to greatest, the two more often than those between. */
    private int from(int least, int greatest) {
        int draw = random.nextInt(10);
        return draw == 0 ? least : draw == 1 ? greatest : least + random.nextInt(greatest - least + 1);
    }

    private void signal() {
        int level = from(25, 100);
        int start = random.nextInt(5) == 0 ? from(0, 100000) : from(0, 300);
        if (random.nextInt(4) == 0 && model.signals() > 0) {
            int signal = random.nextInt(model.signals());
            due("removeSignal", x.removeSignal(signal), model.removeSignal(signal));
        } else if (random.nextBoolean()) {
            int channel = from(0, 31);
            int period = random.nextInt(3) == 0 ? from(1, 1000) : from(1, 8);
            int on = from(1, period);
            pulsed(channel, level, start, on, period);
        } else {
            int first = from(0, 31);
            int step = from(1, 31);
            int hold = random.nextInt(4) == 0 ? from(1, 1000) : from(1, 5);
            hopping(first, step, hold, level, start);
        }
    }

    private void pulsed(int channel, int level, int start, int on, int period) {
        if (model.signals() == 10) {
            dueState("addPulsed", () -> x.addPulsed(channel, level, start, on, period));
        } else {
            due("addPulsed", x.addPulsed(channel, level, start, on, period),
                    model.addSignal(0, channel, level, start, on, period));
        }
    }

    private void hopping(int first, int step, int hold, int level, int start) {
        if (model.signals() == 10) {
            dueState("addHopping", () -> x.addHopping(first, step, hold, level, start));
        } else {
            due("addHopping", x.addHopping(first, step, hold, level, start),
                    model.addSignal(1, first, step, hold, level, start));
        }
    }

    private void settings() {
        int draw = random.nextInt(3);
        if (draw == 0) {
            int floor = random.nextInt(6) == 0 ? from(0, 100) : from(0, 30);
            int threshold = random.nextInt(6) == 0 ? from(0, 100) : from(25, 60);
            due("setLevels", x.setLevels(floor, threshold), model.setLevels(floor, threshold));
        } else if (draw == 1) {
            int low = from(0, 31);
            int high = from(low, 31);
            int mask = from(0, 100);
            due("setMask", x.setMask(low, high, mask), model.setMask(low, high, mask));
        } else {
            int gap = random.nextBoolean() ? from(1, 1000) : from(1, 12);
            int tolerance = random.nextBoolean() ? from(0, 100) : from(0, 8);
            due("setHops", x.setHops(gap, tolerance), model.setHops(gap, tolerance));
        }
    }

    private String stepText() {
        int low = from(0, 31);
        int high = from(low, 31);
        String text = random.nextBoolean() ? low + "-" + high : "" + low;
        String out = text + ":" + from(1, 20) + ";";
        return random.nextInt(4) == 0 ? " " + out + " " : out;
    }

    private void plan() {
        StringBuilder text = new StringBuilder();
        int steps = random.nextInt(3) == 0 ? random.nextInt(14) : 1 + random.nextInt(3);
        for (int step = 0; step < steps; step++) {
            text.append(stepText());
        }
        if (random.nextInt(2) == 0 && text.length() > 0) {
            int place = random.nextInt(text.length());
            String sign = "" + "0123456789-:; x".charAt(random.nextInt(15));
            text.replace(place, place + random.nextInt(2), random.nextInt(3) == 0 ? "" : sign);
        }
        text.setLength(Math.min(text.length(), random.nextInt(6) == 0 ? random.nextInt(101) : 100));
        due("clearText()", x.clearText(), model.clearText());
        for (int index = 0; index < text.length(); index++) {
            due("append", x.append(text.charAt(index)), model.append(text.charAt(index)));
        }
        due("parsePlan() of '" + text + "'", x.parsePlan(), model.parsePlan());
        due("steps()", x.steps(), model.steps());
        for (int step = 0; step < model.steps(); step++) {
            int what = random.nextInt(3);
            due("step", x.step(step, what), model.step(step, what));
        }
        for (int turn = 0; turn < 8; turn++) {
            int index = from(0, 100);
            int channel = from(0, 31);
            due("planByte(" + index + ")", x.planByte(index), model.planByte(index));
            due("revisit(" + channel + ")", x.revisit(channel), model.revisit(channel));
        }
    }

    private void time() {
        int ticks = random.nextInt(20) == 0 ? from(0, 400) : from(0, 30);
        due("run(" + ticks + ")", x.run(ticks), model.run(ticks));
        due("presentStep()", x.presentStep(), model.presentStep());
    }

    private void channel() {
        int channel = from(0, 31);
        due("level", x.level(channel), model.level(channel));
        int what = random.nextInt(4);
        due("detector", x.detector(channel, what), model.detector(channel, what));
        due("average", x.average(channel), model.average(channel));
        dueDouble("occupancy", x.occupancy(channel), model.occupancy(channel));
    }

    private void eventsAndChains() {
        due("events()", x.events(), model.events());
        due("chains()", x.chains(), model.chains());
        if (model.events() > 0) {
            int event = random.nextInt(model.events());
            int what = random.nextInt(7);
            due("event(" + event + ", " + what + ")", x.event(event, what), model.event(event, what));
            due("chainLength(" + event + ")", x.chainLength(event), model.chainLength(event));
            dueDouble("hopInterval(" + event + ")", x.hopInterval(event), model.hopInterval(event));
        }
    }

    private void state() {
        int draw = random.nextInt(8);
        if (draw == 0) {
            due("reset()", x.reset(), model.reset());
        } else if (draw < 3) {
            undo();
        }
        due("digest()", x.digest(), model.digest());
    }

    private void undo() {
        boolean refused = false;
        int want = 0;
        try {
            want = model.undo();
        } catch (IllegalStateException expected) {
            refused = true;
        }
        if (refused) {
            dueState("undo()", () -> x.undo());
        } else {
            due("undo()", x.undo(), want);
        }
    }
}
