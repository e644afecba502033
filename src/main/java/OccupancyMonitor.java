import java.util.Arrays;

/**
 * A spectrum occupancy monitor: a sweep plan that is read from a text, pulsed and hopping signals,
 * detectors for each channel, an event log, hop chains and revisit times.
 *
 * <p>All rows are made in the constructor and used again, so that no call makes an object but an
 * exception that it throws.
 */
public final class OccupancyMonitor {
    /** There is no such thing. */
    public static final int NONE = -1;

    private static final int CHANNELS = 32;
    private static final int MAX_LEVEL = 100;
    private static final int MAX_SIGNALS = 10;
    private static final int MAX_START = 100000;
    private static final int MAX_PERIOD = 1000;
    private static final int MAX_HOLD = 1000;
    private static final int MAX_GAP = 1000;
    private static final int MAX_TOLERANCE = 100;
    private static final int MAX_TEXT = 100;
    private static final int MAX_BYTE = 127;
    private static final int MAX_STEPS = 12;
    private static final int MAX_DWELL = 20;
    /** As in "10-31:20;". */
    private static final int MAX_STEP_BYTES = 9;
    private static final int MAX_TICKS = 2000;
    private static final int MAX_EVENTS = 50;
    private static final int MAX_SAVED = 4;
    private static final int LATEST_LEVELS = 8;

    private static final int FIRST_FLOOR = 10;
    private static final int FIRST_THRESHOLD = 30;
    private static final int FIRST_GAP = 10;
    private static final int FIRST_TOLERANCE = 5;

    // The columns of the tables; where the document numbers the values (what), these are its numbers.
    private static final int STEP_LOW = 0;
    private static final int STEP_HIGH = 1;
    private static final int STEP_DWELL = 2;
    private static final int STEP_COLUMNS = 3;

    private static final int DETECTOR_OBSERVATIONS = 0;
    private static final int DETECTOR_HITS = 1;
    private static final int DETECTOR_PEAK = 2;
    private static final int DETECTOR_VIOLATIONS = 3;
    private static final int DETECTOR_COLUMNS = 4;

    private static final int EVENT_CHANNEL = 0;
    private static final int EVENT_START = 1;
    private static final int EVENT_END = 2;
    private static final int EVENT_PEAK = 3;
    private static final int EVENT_OPEN = 4;
    private static final int EVENT_COLUMNS = 5;
    private static final int EVENT_PREDECESSOR = 5;
    private static final int EVENT_CHAIN = 6;

    private static final int SIGNAL_KIND = 0;
    private static final int PULSED = 0;
    private static final int PULSED_CHANNEL = 1;
    private static final int PULSED_LEVEL = 2;
    private static final int PULSED_START = 3;
    private static final int PULSED_ON = 4;
    private static final int PULSED_PERIOD = 5;
    private static final int HOPPING = 1;
    private static final int HOPPING_FIRST = 1;
    private static final int HOPPING_STEP = 2;
    private static final int HOPPING_HOLD = 3;
    private static final int HOPPING_LEVEL = 4;
    private static final int HOPPING_START = 5;
    private static final int SIGNAL_COLUMNS = 6;

    private static final int SYNTAX_ERROR = -10;
    private static final long FIRST_HASH = 2851;

    private final PlanParser parser;
    /** The plan text, which the parser reads. */
    private final Bytes text;
    /** The present plan as a text, written anew whenever it is wanted. */
    private final Bytes planText;
    private final State now;
    private final History history;
    private final HopChains hopChains;
    /** The levels of all channels at one tick, made anew whenever they are wanted. */
    private final int[] levels;

    public OccupancyMonitor() {
        parser = new PlanParser();
        text = parser.text;
        planText = new Bytes(MAX_STEPS * MAX_STEP_BYTES);
        now = new State();
        history = new History();
        hopChains = new HopChains();
        levels = new int[CHANNELS];
    }

    // ---- signals and settings

    public int addPulsed(int channel, int level, int start, int on, int period)
            throws IllegalArgumentException, IllegalStateException {
        requireArgument(channel, 0, CHANNELS - 1);
        requireArgument(level, 0, MAX_LEVEL);
        requireArgument(start, 0, MAX_START);
        requireArgument(period, 1, MAX_PERIOD);
        requireArgument(on, 1, period);
        requireRoomForSignal();
        history.save(now);
        int signal = now.signals.add(PULSED);
        now.signals.put(signal, PULSED_CHANNEL, channel);
        now.signals.put(signal, PULSED_LEVEL, level);
        now.signals.put(signal, PULSED_START, start);
        now.signals.put(signal, PULSED_ON, on);
        now.signals.put(signal, PULSED_PERIOD, period);
        return signal;
    }

    public int addHopping(int first, int step, int hold, int level, int start)
            throws IllegalArgumentException, IllegalStateException {
        requireArgument(first, 0, CHANNELS - 1);
        requireArgument(step, 1, CHANNELS - 1);
        requireArgument(hold, 1, MAX_HOLD);
        requireArgument(level, 0, MAX_LEVEL);
        requireArgument(start, 0, MAX_START);
        requireRoomForSignal();
        history.save(now);
        int signal = now.signals.add(HOPPING);
        now.signals.put(signal, HOPPING_FIRST, first);
        now.signals.put(signal, HOPPING_STEP, step);
        now.signals.put(signal, HOPPING_HOLD, hold);
        now.signals.put(signal, HOPPING_LEVEL, level);
        now.signals.put(signal, HOPPING_START, start);
        return signal;
    }

    public int removeSignal(int signal) throws IndexOutOfBoundsException {
        requireIndex(signal, now.signals.count);
        history.save(now);
        now.signals.remove(signal);
        return now.signals.count;
    }

    public int setLevels(int floor, int threshold) throws IllegalArgumentException {
        requireArgument(floor, 0, MAX_LEVEL);
        requireArgument(threshold, 0, MAX_LEVEL);
        history.save(now);
        int previous = now.threshold;
        now.floor = floor;
        now.threshold = threshold;
        return previous;
    }

    public int setMask(int low, int high, int mask)
            throws IndexOutOfBoundsException, IllegalArgumentException {
        requireIndex(high, CHANNELS);
        requireIndex(low, high + 1);
        requireArgument(mask, 0, MAX_LEVEL);
        history.save(now);
        int previous = now.detectors.maskOf(low);
        now.detectors.mask(low, high, mask);
        return previous;
    }

    public int setHops(int gap, int tolerance) throws IllegalArgumentException {
        requireArgument(gap, 1, MAX_GAP);
        requireArgument(tolerance, 0, MAX_TOLERANCE);
        history.save(now);
        int previous = now.gap;
        now.gap = gap;
        now.tolerance = tolerance;
        return previous;
    }

    // ---- plan

    public int append(int value) throws IllegalArgumentException, IllegalStateException {
        requireArgument(value, 0, MAX_BYTE);
        if (text.length >= MAX_TEXT) {
            throw new IllegalStateException("the text is full");
        }
        text.put(value);
        return text.length;
    }

    public int clearText() {
        int previous = text.length;
        text.length = 0;
        return previous;
    }

    public int parsePlan() {
        int error = parser.parse();
        if (error != NONE) {
            return SYNTAX_ERROR - error;
        }
        history.save(now);
        now.plan.copyFrom(parser.draft);
        return now.plan.count;
    }

    public int steps() {
        return now.plan.count;
    }

    public int step(int step, int what) throws IndexOutOfBoundsException, IllegalArgumentException {
        requireIndex(step, now.plan.count);
        requireArgument(what, 0, STEP_COLUMNS - 1);
        return now.plan.table.get(step, what);
    }

    public int planByte(int index) throws IllegalArgumentException {
        if (index < 0) {
            throw new IllegalArgumentException("the index is negative");
        }
        now.plan.write(planText);
        return planText.byteAt(index);
    }

    public int revisit(int channel) throws IndexOutOfBoundsException {
        requireIndex(channel, CHANNELS);
        return now.plan.revisitTime(channel);
    }

    // ---- time

    public int run(int ticks) throws IllegalArgumentException {
        requireArgument(ticks, 0, MAX_TICKS);
        history.save(now);
        for (int passed = 0; passed < ticks; passed++) {
            now.passTick(levels);
        }
        return now.tick;
    }

    public int presentStep() {
        return now.plan.nextStep();
    }

    public int level(int channel) throws IndexOutOfBoundsException {
        requireIndex(channel, CHANNELS);
        now.fillLevels(levels);
        return channel < levels.length ? levels[channel] : NONE;
    }

    // ---- detectors

    public int detector(int channel, int what)
            throws IndexOutOfBoundsException, IllegalArgumentException {
        requireIndex(channel, CHANNELS);
        requireArgument(what, 0, DETECTOR_COLUMNS - 1);
        return now.detectors.table.get(channel, what);
    }

    public int average(int channel) throws IndexOutOfBoundsException {
        requireIndex(channel, CHANNELS);
        return now.detectors.mean(channel);
    }

    public double occupancy(int channel) throws IndexOutOfBoundsException {
        requireIndex(channel, CHANNELS);
        int observations = now.detectors.table.get(channel, DETECTOR_OBSERVATIONS);
        int hits = now.detectors.table.get(channel, DETECTOR_HITS);
        return observations < 1 ? 0.0 : (double) hits / (double) observations;
    }

    public int reset() {
        history.save(now);
        int previous = now.log.count;
        now.detectors.clear();
        now.log.clear();
        return previous;
    }

    // ---- events and chains

    public int events() {
        return now.log.count;
    }

    public int event(int event, int what) throws IndexOutOfBoundsException, IllegalArgumentException {
        requireIndex(event, now.log.count);
        requireArgument(what, 0, EVENT_CHAIN);
        findChains();
        return describeEvent(event, what);
    }

    public int chainLength(int event) throws IndexOutOfBoundsException {
        requireIndex(event, now.log.count);
        findChains();
        return hopChains.lengthFrom(hopChains.firstOf(event));
    }

    public int chains() {
        findChains();
        return hopChains.number();
    }

    public double hopInterval(int event) throws IndexOutOfBoundsException {
        requireIndex(event, now.log.count);
        findChains();
        int first = hopChains.firstOf(event);
        int hops = hopChains.lengthFrom(first) - 1;
        if (hops < 1) {
            return 0.0;
        }
        int last = hopChains.lastFrom(first);
        int ticks = now.log.read(last, EVENT_START) - now.log.read(first, EVENT_START);
        return (double) ticks / (double) hops;
    }

    // ---- state

    public int undo() throws IllegalStateException {
        if (history.count < 1) {
            throw new IllegalStateException("no state is saved");
        }
        history.restore(now);
        return history.count;
    }

    public long digest() {
        long hash = mix(FIRST_HASH, text.length);
        hash = mix(hash, now.tick);
        hash = mix(hash, now.floor);
        hash = mix(hash, now.threshold);
        hash = mix(hash, now.gap);
        hash = mix(hash, now.tolerance);
        hash = mix(hash, now.signals.count);
        hash = now.signals.table.mixRows(hash, now.signals.count);
        hash = mix(hash, now.plan.count);
        hash = now.plan.table.mixRows(hash, now.plan.count);
        hash = mix(hash, now.plan.nextStep());
        hash = now.detectors.mixChannels(hash);
        findChains();
        hash = mixEvents(hash);
        return mix(hash, history.count);
    }

    // ---- helpers

    private static void requireArgument(int value, int least, int greatest) {
        if (value < least || value > greatest) {
            throw new IllegalArgumentException("an argument is out of range");
        }
    }

    private static void requireIndex(int index, int size) {
        if (!within(index, size)) {
            throw new IndexOutOfBoundsException("there is no such thing");
        }
    }

    private void requireRoomForSignal() {
        if (now.signals.count >= MAX_SIGNALS) {
            throw new IllegalStateException("there are too many signals");
        }
    }

    private static boolean within(int index, int size) {
        return index >= 0 && index < size;
    }

    private static long mix(long hash, int value) {
        return 31 * hash + value;
    }

    private void findChains() {
        hopChains.find(now.log, now.gap, now.tolerance);
    }

    /** Answers for the chains that were found last. */
    private int describeEvent(int event, int what) {
        if (what == EVENT_PREDECESSOR) {
            return hopChains.predecessorOf(event);
        }
        if (what == EVENT_CHAIN) {
            return hopChains.firstOf(event);
        }
        return now.log.read(event, what);
    }

    private long mixEvents(long hash) {
        long mixed = mix(hash, now.log.count);
        for (int event = 0; event < now.log.count; event++) {
            for (int what = 0; what <= EVENT_CHAIN; what++) {
                mixed = mix(mixed, describeEvent(event, what));
            }
        }
        return mixed;
    }

    /**
     * Numbers in rows and columns. A place outside answers NONE and takes nothing: every index is
     * looked at here, so that none can make the machine throw.
     */
    private static final class Table {
        private final int rows;
        private final int columns;
        private final int[] cells;

        Table(int rows, int columns) {
            this.rows = rows;
            this.columns = columns;
            cells = new int[Math.max(0, rows * columns)];
        }

        int get(int row, int column) {
            if (row < 0 || row >= rows || column < 0 || column >= columns) {
                return NONE;
            }
            return cells[row * columns + column];
        }

        void set(int row, int column, int value) {
            if (row < 0 || row >= rows || column < 0 || column >= columns) {
                return;
            }
            cells[row * columns + column] = value;
        }

        void increase(int row, int column) {
            set(row, column, get(row, column) + 1);
        }

        void fill(int value) {
            Arrays.fill(cells, value);
        }

        /** Moves the rows behind a row to the front by one; the last row stays as it is. */
        void removeRow(int row) {
            if (within(row, rows)) {
                int place = row * columns;
                System.arraycopy(cells, place + columns, cells, place, cells.length - place - columns);
            }
        }

        void copyFrom(Table other) {
            System.arraycopy(other.cells, 0, cells, 0, Math.min(cells.length, other.cells.length));
        }

        long mixRows(long hash, int count) {
            long mixed = hash;
            for (int row = 0; row < count; row++) {
                mixed = mixRow(mixed, row);
            }
            return mixed;
        }

        long mixRow(long hash, int row) {
            long mixed = hash;
            for (int column = 0; column < columns; column++) {
                mixed = mix(mixed, get(row, column));
            }
            return mixed;
        }
    }

    /** A row is the kind of a signal and the arguments with which it was added, in their order. */
    private static final class Signals {
        private final Table table = new Table(MAX_SIGNALS, SIGNAL_COLUMNS);
        private int count;

        int add(int kind) {
            int signal = count;
            table.set(signal, SIGNAL_KIND, kind);
            count++;
            return signal;
        }

        void put(int signal, int column, int value) {
            table.set(signal, column, value);
        }

        void remove(int signal) {
            table.removeRow(signal);
            count--;
        }

        /** Raises the levels of the channels in which signals are active at a tick. */
        void raiseLevels(int tick, int[] levels) {
            for (int signal = 0; signal < count; signal++) {
                boolean pulsed = table.get(signal, SIGNAL_KIND) == PULSED;
                int channel = pulsed ? pulsedChannel(signal, tick) : hoppingChannel(signal, tick);
                int level = table.get(signal, pulsed ? PULSED_LEVEL : HOPPING_LEVEL);
                if (within(channel, levels.length) && level > levels[channel]) {
                    levels[channel] = level;
                }
            }
        }

        /** The channel in which a pulsed signal is active at a tick, or NONE. */
        private int pulsedChannel(int signal, int tick) {
            int ticks = tick - table.get(signal, PULSED_START);
            int period = table.get(signal, PULSED_PERIOD);
            if (ticks < 0 || period < 1) {
                return NONE;
            }
            boolean active = ticks % period < table.get(signal, PULSED_ON);
            return active ? table.get(signal, PULSED_CHANNEL) : NONE;
        }

        /** The channel in which a hopping signal is active at a tick, or NONE. */
        private int hoppingChannel(int signal, int tick) {
            int ticks = tick - table.get(signal, HOPPING_START);
            int hold = table.get(signal, HOPPING_HOLD);
            if (ticks < 0 || hold < 1) {
                return NONE;
            }
            int way = table.get(signal, HOPPING_STEP) * (ticks / hold);
            return (table.get(signal, HOPPING_FIRST) + way) % CHANNELS;
        }

        void copyFrom(Signals other) {
            table.copyFrom(other.table);
            count = other.count;
        }
    }

    /** The steps, and how far the monitor has gone through them. */
    private static final class Plan {
        private final Table table = new Table(MAX_STEPS, STEP_COLUMNS);
        private int count;
        private int present;
        private int elapsed;

        void clear() {
            count = 0;
            present = 0;
            elapsed = 0;
        }

        void add(int low, int high, int dwell) {
            table.set(count, STEP_LOW, low);
            table.set(count, STEP_HIGH, high);
            table.set(count, STEP_DWELL, dwell);
            count++;
        }

        int nextStep() {
            return count == 0 ? NONE : present;
        }

        boolean covers(int step, int channel) {
            return channel >= table.get(step, STEP_LOW) && channel <= table.get(step, STEP_HIGH);
        }

        void passTick() {
            elapsed++;
            if (elapsed >= table.get(present, STEP_DWELL)) {
                elapsed = 0;
                present = present + 1 < count ? present + 1 : 0;
            }
        }

        /** Goes through the plan twice, so that the way from its end to its start is seen too. */
        int revisitTime(int channel) {
            int longest = NONE;
            int away = 0;
            boolean seen = false;
            for (int turn = 0; turn < 2 * count; turn++) {
                int step = turn < count ? turn : turn - count;
                if (!covers(step, channel)) {
                    away += table.get(step, STEP_DWELL);
                    continue;
                }
                if (seen) {
                    longest = Math.max(longest, away + 1);
                }
                seen = true;
                away = 0;
            }
            return longest;
        }

        void write(Bytes out) {
            out.length = 0;
            for (int step = 0; step < count; step++) {
                int low = table.get(step, STEP_LOW);
                int high = table.get(step, STEP_HIGH);
                out.putNumber(low);
                if (high != low) {
                    out.put('-');
                    out.putNumber(high);
                }
                out.put(':');
                out.putNumber(table.get(step, STEP_DWELL));
                out.put(';');
            }
        }

        void copyFrom(Plan other) {
            table.copyFrom(other.table);
            count = other.count;
            present = other.present;
            elapsed = other.elapsed;
        }
    }

    /** The detectors of the channels, their latest levels and their masks. */
    private static final class Detectors {
        private final Table table = new Table(CHANNELS, DETECTOR_COLUMNS);
        private final Table latest = new Table(CHANNELS, LATEST_LEVELS);
        private final Table masks = new Table(CHANNELS, 1);

        Detectors() {
            masks.fill(MAX_LEVEL);
            clear();
        }

        /** The masks are settings and stay; old latest levels count no more without observations. */
        void clear() {
            table.fill(0);
            for (int channel = 0; channel < CHANNELS; channel++) {
                table.set(channel, DETECTOR_PEAK, NONE);
            }
        }

        int maskOf(int channel) {
            return masks.get(channel, 0);
        }

        void mask(int low, int high, int mask) {
            for (int channel = low; channel <= high; channel++) {
                masks.set(channel, 0, mask);
            }
        }

        void observe(int channel, int level, boolean hit) {
            int observations = table.get(channel, DETECTOR_OBSERVATIONS);
            latest.set(channel, observations % LATEST_LEVELS, level);
            table.increase(channel, DETECTOR_OBSERVATIONS);
            if (hit) {
                table.increase(channel, DETECTOR_HITS);
            }
            if (level > maskOf(channel)) {
                table.increase(channel, DETECTOR_VIOLATIONS);
            }
            if (level > table.get(channel, DETECTOR_PEAK)) {
                table.set(channel, DETECTOR_PEAK, level);
            }
        }

        int mean(int channel) {
            int number = Math.min(table.get(channel, DETECTOR_OBSERVATIONS), LATEST_LEVELS);
            if (number < 1) {
                return NONE;
            }
            int sum = 0;
            for (int place = 0; place < number; place++) {
                sum += latest.get(channel, place);
            }
            return sum / number;
        }

        long mixChannels(long hash) {
            long mixed = hash;
            for (int channel = 0; channel < CHANNELS; channel++) {
                mixed = mix(mixed, maskOf(channel));
                mixed = table.mixRow(mixed, channel);
                mixed = mix(mixed, mean(channel));
            }
            return mixed;
        }

        void copyFrom(Detectors other) {
            table.copyFrom(other.table);
            latest.copyFrom(other.latest);
            masks.copyFrom(other.masks);
        }
    }

    /**
     * The events that are kept. An event stays in its slot while its number changes, so that the
     * slots of the open events need no correction when an event is dropped.
     */
    private static final class EventLog {
        private final Table slots = new Table(MAX_EVENTS, EVENT_COLUMNS);
        /** The slots in the order of the events' numbers; those behind the events are free. */
        private final int[] order = new int[MAX_EVENTS];
        /** The slot of each channel's open event, or NONE. */
        private final Table openSlots = new Table(CHANNELS, 1);
        private int count;

        EventLog() {
            for (int number = 0; number < order.length; number++) {
                order[number] = number;
            }
            openSlots.fill(NONE);
        }

        void clear() {
            count = 0;
            openSlots.fill(NONE);
        }

        int read(int number, int column) {
            return within(number, order.length) ? slots.get(order[number], column) : NONE;
        }

        void noteHit(int channel, int tick, int level) {
            int slot = openSlots.get(channel, 0);
            if (slot == NONE) {
                dropIfFull();
                open(channel, tick, level);
                return;
            }
            slots.set(slot, EVENT_END, tick);
            if (level > slots.get(slot, EVENT_PEAK)) {
                slots.set(slot, EVENT_PEAK, level);
            }
        }

        void noteMiss(int channel) {
            slots.set(openSlots.get(channel, 0), EVENT_OPEN, 0);
            openSlots.set(channel, 0, NONE);
        }

        private void open(int channel, int tick, int level) {
            if (!within(count, order.length)) {
                return;
            }
            int slot = order[count];
            slots.set(slot, EVENT_CHANNEL, channel);
            slots.set(slot, EVENT_START, tick);
            slots.set(slot, EVENT_END, tick);
            slots.set(slot, EVENT_PEAK, level);
            slots.set(slot, EVENT_OPEN, 1);
            openSlots.set(channel, 0, slot);
            count++;
        }

        /** One is closed then: at most one event a channel is open, and more are kept. */
        private void dropIfFull() {
            int last = order.length - 1;
            if (count <= last) {
                return;
            }
            for (int number = 0; number <= last; number++) {
                int slot = order[number];
                if (slots.get(slot, EVENT_OPEN) == 0) {
                    System.arraycopy(order, number + 1, order, number, last - number);
                    order[last] = slot;
                    count = last;
                    return;
                }
            }
        }

        void copyFrom(EventLog other) {
            slots.copyFrom(other.slots);
            System.arraycopy(other.order, 0, order, 0, Math.min(order.length, other.order.length));
            openSlots.copyFrom(other.openSlots);
            count = other.count;
        }
    }

    /** Everything that undo restores. */
    private static final class State {
        private final Signals signals = new Signals();
        private final Plan plan = new Plan();
        private final Detectors detectors = new Detectors();
        private final EventLog log = new EventLog();
        private int tick;
        private int floor = FIRST_FLOOR;
        private int threshold = FIRST_THRESHOLD;
        private int gap = FIRST_GAP;
        private int tolerance = FIRST_TOLERANCE;

        void fillLevels(int[] levels) {
            Arrays.fill(levels, floor);
            signals.raiseLevels(tick, levels);
        }

        void passTick(int[] levels) {
            tick++;
            int step = plan.nextStep();
            if (step == NONE) {
                return;
            }
            fillLevels(levels);
            for (int channel = 0; channel < levels.length; channel++) {
                if (plan.covers(step, channel)) {
                    observe(channel, levels[channel]);
                }
            }
            plan.passTick();
        }

        private void observe(int channel, int level) {
            boolean hit = level > threshold;
            detectors.observe(channel, level, hit);
            if (hit) {
                log.noteHit(channel, tick, level);
            } else {
                log.noteMiss(channel);
            }
        }

        void copyFrom(State other) {
            signals.copyFrom(other.signals);
            plan.copyFrom(other.plan);
            detectors.copyFrom(other.detectors);
            log.copyFrom(other.log);
            tick = other.tick;
            floor = other.floor;
            threshold = other.threshold;
            gap = other.gap;
            tolerance = other.tolerance;
        }
    }

    /** The saved states, in a ring: the oldest one is written over first. */
    private static final class History {
        private final State[] ring = new State[MAX_SAVED];
        private int next;
        private int count;

        History() {
            for (int place = 0; place < ring.length; place++) {
                ring[place] = new State();
            }
        }

        void save(State state) {
            State place = stateAt(next);
            if (place != null) {
                place.copyFrom(state);
                next = next + 1 < ring.length ? next + 1 : 0;
                count = Math.min(count + 1, ring.length);
            }
        }

        void restore(State state) {
            int newest = next > 0 ? next - 1 : ring.length - 1;
            State place = stateAt(newest);
            if (place != null && count > 0) {
                state.copyFrom(place);
                next = newest;
                count--;
            }
        }

        private State stateAt(int place) {
            return within(place, ring.length) ? ring[place] : null;
        }
    }

    /** The chains of the events as they are at the time of find. */
    private static final class HopChains {
        private final int[] predecessors = new int[MAX_EVENTS];
        private final int[] successors = new int[MAX_EVENTS];
        private final int[] firsts = new int[MAX_EVENTS];
        private int count;

        void find(EventLog log, int gap, int tolerance) {
            count = Math.min(log.count, MAX_EVENTS);
            Arrays.fill(successors, NONE);
            for (int event = 0; event < count; event++) {
                int before = findPredecessor(log, event, gap, tolerance);
                predecessors[event] = before;
                firsts[event] = event;
                if (within(before, event)) {
                    successors[before] = event;
                    firsts[event] = firsts[before];
                }
            }
        }

        private int findPredecessor(EventLog log, int event, int gap, int tolerance) {
            int best = NONE;
            int bestEnd = NONE;
            for (int before = 0; before < event; before++) {
                int end = log.read(before, EVENT_END);
                boolean free = successors[before] == NONE;
                if (free && end >= bestEnd && fits(log, before, event, gap, tolerance)) {
                    best = before;
                    bestEnd = end;
                }
            }
            return best;
        }

        private static boolean fits(EventLog log, int before, int event, int gap, int tolerance) {
            int ticks = log.read(event, EVENT_START) - log.read(before, EVENT_END);
            int difference = log.read(event, EVENT_PEAK) - log.read(before, EVENT_PEAK);
            return log.read(before, EVENT_OPEN) == 0
                    && log.read(before, EVENT_CHANNEL) != log.read(event, EVENT_CHANNEL)
                    && ticks >= 1
                    && ticks <= gap
                    && Math.abs(difference) <= tolerance;
        }

        int predecessorOf(int event) {
            return within(event, count) ? predecessors[event] : NONE;
        }

        int firstOf(int event) {
            return within(event, count) ? firsts[event] : NONE;
        }

        int lengthFrom(int first) {
            int length = 0;
            for (int event = 0; event < count; event++) {
                length += firsts[event] == first ? 1 : 0;
            }
            return length;
        }

        /** Numbers ascend along a chain, so that its last event is the one with the highest. */
        int lastFrom(int first) {
            int last = NONE;
            for (int event = 0; event < count; event++) {
                last = firsts[event] == first ? event : last;
            }
            return last;
        }

        int number() {
            int number = 0;
            for (int event = 0; event < count; event++) {
                number += firsts[event] == event ? 1 : 0;
            }
            return number;
        }
    }

    /** A text; what does not fit in is left out. */
    private static final class Bytes {
        private final int[] values;
        private int length;

        Bytes(int size) {
            values = new int[Math.max(0, size)];
        }

        /** Behind the last byte stands NONE, which equals no byte. */
        int byteAt(int index) {
            return within(index, length) && index < values.length ? values[index] : NONE;
        }

        void put(int value) {
            if (within(length, values.length)) {
                values[length] = value;
                length++;
            }
        }

        /** Writes a number from 0 to 99. */
        void putNumber(int number) {
            if (number >= 10) {
                put('0' + number / 10);
            }
            put('0' + number % 10);
        }
    }

    /** Reads the text into a draft. Only the first error counts, so that reading may go on behind it. */
    private static final class PlanParser {
        private final Bytes text = new Bytes(MAX_TEXT);
        private final Plan draft = new Plan();
        private int position;
        private int error;

        /** Returns the syntax error position, or NONE if the draft is the plan. */
        int parse() {
            position = 0;
            error = NONE;
            draft.clear();
            skipSpaces();
            // One turn more than there may be steps: it finds the thirteenth one.
            for (int turn = 0; turn <= MAX_STEPS; turn++) {
                if (error != NONE || position >= text.length) {
                    break;
                }
                readStep();
                skipSpaces();
            }
            return error;
        }

        private void skipSpaces() {
            while (position < text.length && text.byteAt(position) == ' ') {
                position++;
            }
        }

        private void readStep() {
            if (draft.count >= MAX_STEPS) {
                fail(position);
                return;
            }
            int low = readNumber(0, CHANNELS - 1);
            int high = low;
            if (text.byteAt(position) == '-') {
                position++;
                high = readNumber(low, CHANNELS - 1);
            }
            readSign(':');
            int dwell = readNumber(1, MAX_DWELL);
            readSign(';');
            if (error == NONE) {
                draft.add(low, high, dwell);
            }
        }

        private int readNumber(int least, int greatest) {
            int first = position;
            if (!isDigit(first)) {
                fail(first);
                return NONE;
            }
            int value = readDigit();
            if (isDigit(position)) {
                value = 10 * value + readDigit();
            }
            if (isDigit(position)) {
                fail(position);
            }
            if (value < least || value > greatest) {
                fail(first);
            }
            return value;
        }

        private int readDigit() {
            int digit = text.byteAt(position) - '0';
            position++;
            return digit;
        }

        private boolean isDigit(int index) {
            int value = text.byteAt(index);
            return value >= '0' && value <= '9';
        }

        private void readSign(char sign) {
            if (text.byteAt(position) == sign) {
                position++;
            } else {
                fail(position);
            }
        }

        private void fail(int index) {
            if (error == NONE) {
                error = index;
            }
        }
    }
}
