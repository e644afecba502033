import java.util.ArrayList;
import java.util.LinkedHashMap;
import java.util.List;
import java.util.Map;

/**
 * Tests of single sentences of the document. Each is named by its place there ("Promise 2", or the
 * heading of a paragraph of the description) and by the words that it tests, and what it prints
 * begins with both.
 */
final class Sentences {
    /** Makes an object, and the same one again at each call. */
    interface Setup {
        OccupancyMonitor make();
    }

    /** A call of the face. */
    interface Call {
        long make(OccupancyMonitor x);
    }

    /** Answers from which a change can be told. */
    private interface View {
        String of(OccupancyMonitor x);
    }

    static final Setup FRESH = OccupancyMonitor::new;
    static final Setup BUSY = Sentences::busy;
    static final Setup ROOMY = Sentences::roomy;

    private static final View[] VIEWS = {Sentences::present, Sentences::future, Sentences::past};

    private final Checks checks = new Checks();
    private final Map<String, List<String>> tested = new LinkedHashMap<>();
    private String place = "";
    private String words = "";

    /** The tests that follow are of sentences in this place. */
    void at(String newPlace) {
        place = newPlace;
    }

    void test(String newWords, Runnable body) {
        words = newWords;
        tested.computeIfAbsent(place, key -> new ArrayList<>()).add(words);
        int before = checks.made();
        try {
            body.run();
        } catch (RuntimeException thrown) {
            dueText("the test", "throws " + thrown, "ends");
        }
        due("the test looks at answers", checks.made() > before ? 1 : 0, 1);
    }

    /** The words that are tested, by their places. */
    Map<String, List<String>> tested() {
        return tested;
    }

    void finish() {
        checks.finish();
    }

    private String name(String call) {
        return place + ", \"" + words + "\": " + call;
    }

    void due(String call, long got, long want) {
        checks.due(name(call), got, want);
    }

    void dueDouble(String call, double got, double want) {
        checks.dueDouble(name(call), got, want);
    }

    void dueText(String call, String got, String want) {
        checks.dueText(name(call), got, want);
    }

    void dueEvents(String call, OccupancyMonitor x, String want) {
        dueText(call + ": events", Checks.eventTable(x), want);
    }

    /** The call answers this; it may be made on any object that the setup makes. */
    void accepted(String call, Setup setup, Call made, long want) {
        due(call, made.make(setup.make()), want);
    }

    /** The call throws just this, and afterwards all answers are as if it had not been made. */
    void refused(String call, Class<? extends RuntimeException> kind, Setup setup, Call made) {
        dueText(call, attempt(setup.make(), made), kind.getSimpleName());
        unchanged(call, setup, x -> attempt(x, made));
    }

    void refusedArgument(String call, Setup setup, Call made) {
        refused(call, IllegalArgumentException.class, setup, made);
    }

    void refusedIndex(String call, Setup setup, Call made) {
        refused(call, IndexOutOfBoundsException.class, setup, made);
    }

    void refusedState(String call, Setup setup, Call made) {
        refused(call, IllegalStateException.class, setup, made);
    }

    /** After the calls all answers are as if they had not been made. */
    void unchanged(String call, Setup setup, java.util.function.Consumer<OccupancyMonitor> made) {
        for (View view : VIEWS) {
            OccupancyMonitor x = setup.make();
            made.accept(x);
            dueText(call + ", and what follows", view.of(x), view.of(setup.make()));
        }
    }

    /** The call saves the state from before it, and undo leads back there; less than 4 states are saved. */
    void saves(String call, Setup setup, Call made) {
        OccupancyMonitor x = setup.make();
        int saved = savedStates(setup.make());
        made.make(x);
        due(call + ", then undo()", x.undo(), saved);
        unchanged(call + ", then undo()", setup, y -> {
            made.make(y);
            y.undo();
        });
    }

    /** How many states are saved; it undoes them all. */
    static int savedStates(OccupancyMonitor x) {
        for (int count = 0; count < 10; count++) {
            if (attempt(x, y -> y.undo()).equals("IllegalStateException")) {
                return count;
            }
        }
        return 10;
    }

    /** The answer, or the simple name of what is thrown. */
    static String attempt(OccupancyMonitor x, Call call) {
        try {
            return "" + call.make(x);
        } catch (RuntimeException thrown) {
            return thrown.getClass().getSimpleName();
        }
    }

    static void runTo(OccupancyMonitor x, int tick) {
        int now = x.run(0);
        for (int call = 0; call < 60 && now < tick; call++) {
            now = x.run(Math.min(2000, tick - now));
        }
    }

    /** Lets ticks pass during which a signal is active in one channel; there are no other signals. */
    static void hit(OccupancyMonitor x, int channel, int level, int ticks) {
        x.addPulsed(channel, level, 0, 1, 1);
        x.run(ticks);
        x.removeSignal(0);
    }

    /** Signals, settings, detectors, open and closed events, a dwell that has begun and 4 saved states. */
    private static OccupancyMonitor busy() {
        OccupancyMonitor x = Checks.withPlan("0-9:3;5-20:4;");
        x.addPulsed(3, 60, 2, 2, 5);
        x.addHopping(4, 5, 3, 62, 2);
        x.setLevels(11, 33);
        x.setMask(3, 9, 61);
        x.setHops(7, 6);
        x.run(37);
        x.run(2);
        Checks.type(x, " 1-2:1;3:02;");
        return x;
    }

    /** As busy, but there is room for one more saved state. */
    private static OccupancyMonitor roomy() {
        OccupancyMonitor x = busy();
        x.undo();
        return x;
    }

    private static String present(OccupancyMonitor x) {
        StringBuilder out = new StringBuilder("digest " + x.digest());
        out.append(" plan ").append(Checks.written(x)).append(" step ").append(x.presentStep());
        for (int channel = 0; channel < 32; channel++) {
            out.append(' ').append(x.level(channel)).append(' ').append(x.occupancy(channel));
        }
        for (int event = 0; event < Math.min(20, x.events()); event++) {
            out.append(' ').append(x.chainLength(event)).append(' ').append(x.hopInterval(event));
        }
        return out.append(" chains ").append(x.chains()).toString();
    }

    /** What digest does not show (the bytes of the text, the dwell, the latest levels) shows later. */
    private static String future(OccupancyMonitor x) {
        StringBuilder out = new StringBuilder();
        for (int tick = 0; tick < 10; tick++) {
            out.append(x.run(1)).append(' ').append(x.presentStep()).append(' ').append(x.digest()).append(' ');
        }
        out.append(x.parsePlan()).append(' ').append(Checks.written(x)).append(' ').append(x.digest());
        out.append(' ').append(attempt(x, y -> y.append('x')));
        return out.append(' ').append(x.parsePlan()).append(' ').append(x.clearText()).toString();
    }

    private static String past(OccupancyMonitor x) {
        StringBuilder out = new StringBuilder();
        for (int call = 0; call < 5; call++) {
            out.append(attempt(x, y -> y.undo())).append(' ').append(x.digest()).append(' ');
        }
        return out.append(x.clearText()).toString();
    }
}
