/** What the tests share: they count and print the answers that are not as due. */
final class Checks {
    /** A call that should throw. */
    interface Call {
        void make();
    }

    static final Class<IllegalArgumentException> ARGUMENT = IllegalArgumentException.class;
    static final Class<IllegalStateException> STATE = IllegalStateException.class;
    static final Class<IndexOutOfBoundsException> INDEX = IndexOutOfBoundsException.class;

    private int made;
    private int wrong;

    void due(String call, long got, long want) {
        made++;
        if (got != want) {
            wrong++;
            System.out.println(call + " answered " + got + ", due is " + want);
        }
    }

    void dueDouble(String call, double got, double want) {
        made++;
        if (Double.compare(got, want) != 0) {
            wrong++;
            System.out.println(call + " answered " + got + ", due is " + want);
        }
    }

    void dueText(String call, String got, String want) {
        made++;
        if (!got.equals(want)) {
            wrong++;
            System.out.println(call + " answered " + got + ", due is " + want);
        }
    }

    /** The call must throw just this class of exception, and must change nothing. */
    void dueThrows(String call, OccupancyMonitor monitor, Class<? extends RuntimeException> kind, Call made) {
        long before = monitor.digest();
        String got = "nothing";
        try {
            made.make();
        } catch (RuntimeException thrown) {
            got = thrown.getClass().getName();
        }
        dueText(call + " throws", got, kind.getName());
        due(call + " changes the digest", monitor.digest(), before);
    }

    void finish() {
        System.out.println(made + " answers, " + wrong + " not as due");
        if (wrong != 0 || made == 0) {
            System.exit(1);
        }
    }

    int made() {
        return made;
    }

    /** Makes this the plan text. */
    static void type(OccupancyMonitor monitor, String text) {
        monitor.clearText();
        for (int index = 0; index < text.length(); index++) {
            monitor.append(text.charAt(index));
        }
    }

    /** Makes this the plan text and parses it. */
    static int parse(OccupancyMonitor monitor, String text) {
        type(monitor, text);
        return monitor.parsePlan();
    }

    static OccupancyMonitor withPlan(String text) {
        OccupancyMonitor monitor = new OccupancyMonitor();
        parse(monitor, text);
        return monitor;
    }

    /** The plan as planByte writes it. */
    static String written(OccupancyMonitor monitor) {
        StringBuilder out = new StringBuilder();
        int sign = monitor.planByte(0);
        while (sign != OccupancyMonitor.NONE && out.length() < 200) {
            out.append((char) sign);
            sign = monitor.planByte(out.length());
        }
        return out.toString();
    }

    /** The values of event() for all events, as "channel start end peak open predecessor chain; ..". */
    static String eventTable(OccupancyMonitor monitor) {
        StringBuilder out = new StringBuilder();
        for (int event = 0; event < monitor.events(); event++) {
            for (int what = 0; what <= 6; what++) {
                out.append(what == 0 ? "" : " ").append(monitor.event(event, what));
            }
            out.append("; ");
        }
        return out.toString().trim();
    }

    /** The channels whose level is not the floor, as "channel=level ..". */
    static String raised(OccupancyMonitor monitor, int floor) {
        StringBuilder out = new StringBuilder();
        for (int channel = 0; channel < 32; channel++) {
            int level = monitor.level(channel);
            if (level != floor) {
                out.append(out.length() == 0 ? "" : " ").append(channel).append('=').append(level);
            }
        }
        return out.toString();
    }
}
