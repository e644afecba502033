import java.util.ArrayDeque;
import java.util.ArrayList;
import java.util.List;

/**
 * The document in its plainest form, with copies of the whole state and no regard to speed, to
 * compare OccupancyMonitor with. It answers only calls whose arguments are in range, but for the
 * exceptions that depend on the state.
 */
final class PlainModel {
    /** An event as the document tells it. */
    private static final class Event {
        int channel;
        int start;
        int end;
        int peak;
        boolean open;

        Event copy() {
            Event event = new Event();
            event.channel = channel;
            event.start = start;
            event.end = end;
            event.peak = peak;
            event.open = open;
            return event;
        }
    }

    /** What undo restores. */
    private static final class Saved {
        int tick;
        int floor = 10;
        int threshold = 30;
        int gap = 10;
        int tolerance = 5;
        int present;
        int elapsed;
        List<int[]> signals = new ArrayList<>();
        List<int[]> steps = new ArrayList<>();
        int[] masks = new int[32];
        int[] violations = new int[32];
        int[] hits = new int[32];
        List<List<Integer>> observed = new ArrayList<>();
        List<Event> events = new ArrayList<>();

        Saved() {
            java.util.Arrays.fill(masks, 100);
            for (int channel = 0; channel < 32; channel++) {
                observed.add(new ArrayList<>());
            }
        }

        Saved copy() {
            Saved copy = new Saved();
            copy.tick = tick;
            copy.floor = floor;
            copy.threshold = threshold;
            copy.gap = gap;
            copy.tolerance = tolerance;
            copy.present = present;
            copy.elapsed = elapsed;
            copy.signals = new ArrayList<>(signals);
            copy.steps = new ArrayList<>(steps);
            copy.masks = masks.clone();
            copy.violations = violations.clone();
            copy.hits = hits.clone();
            copy.observed.clear();
            for (List<Integer> levels : observed) {
                copy.observed.add(new ArrayList<>(levels));
            }
            for (Event event : events) {
                copy.events.add(event.copy());
            }
            return copy;
        }
    }

    private final StringBuilder text = new StringBuilder();
    private final ArrayDeque<Saved> history = new ArrayDeque<>();
    private Saved now = new Saved();

    private void save() {
        history.addLast(now.copy());
        if (history.size() > 4) {
            history.removeFirst();
        }
    }

    int signals() {
        return now.signals.size();
    }

    int addSignal(int kind, int a, int b, int c, int d, int e) {
        if (now.signals.size() == 10) {
            throw new IllegalStateException();
        }
        save();
        now.signals.add(new int[] {kind, a, b, c, d, e});
        return now.signals.size() - 1;
    }

    int removeSignal(int signal) {
        save();
        now.signals.remove(signal);
        return now.signals.size();
    }

    int setLevels(int floor, int threshold) {
        save();
        int previous = now.threshold;
        now.floor = floor;
        now.threshold = threshold;
        return previous;
    }

    int setMask(int low, int high, int mask) {
        save();
        int previous = now.masks[low];
        for (int channel = low; channel <= high; channel++) {
            now.masks[channel] = mask;
        }
        return previous;
    }

    int setHops(int gap, int tolerance) {
        save();
        int previous = now.gap;
        now.gap = gap;
        now.tolerance = tolerance;
        return previous;
    }

    int append(int value) {
        if (text.length() == 100) {
            throw new IllegalStateException();
        }
        text.append((char) value);
        return text.length();
    }

    int clearText() {
        int previous = text.length();
        text.setLength(0);
        return previous;
    }

    /**
     * A machine over the bytes. State 0 stands before a step, 1 in the first channel, 2 behind the
     * minus sign, 3 in the second channel, 4 behind the colon, 5 in the dwell.
     */
    int parsePlan() {
        List<int[]> steps = new ArrayList<>();
        int state = 0;
        int first = 0;
        int low = 0;
        int high = 0;
        for (int index = 0; index <= text.length(); index++) {
            int sign = index < text.length() ? text.charAt(index) : -1;
            boolean digit = sign >= '0' && sign <= '9';
            if (state == 0 && (sign == ' ' || sign == -1)) {
                continue;
            }
            if (state % 2 == 0) {
                if (!digit || steps.size() == 12) {
                    return -10 - index;
                }
                first = index;
                state++;
                continue;
            }
            if (digit && index - first < 2) {
                continue;
            }
            if (digit) {
                return -10 - index;
            }
            int number = Integer.parseInt(text.substring(first, index));
            int least = state == 1 ? 0 : state == 3 ? low : 1;
            int greatest = state == 5 ? 20 : 31;
            if (number < least || number > greatest) {
                return -10 - first;
            }
            if (state == 1) {
                low = number;
            }
            if (state == 1 || state == 3) {
                high = number;
            }
            if (state == 1 && sign == '-') {
                state = 2;
            } else if (state != 5 && sign == ':') {
                state = 4;
            } else if (state == 5 && sign == ';') {
                steps.add(new int[] {low, high, number});
                state = 0;
            } else {
                return -10 - index;
            }
        }
        save();
        now.steps = steps;
        now.present = 0;
        now.elapsed = 0;
        return steps.size();
    }

    int steps() {
        return now.steps.size();
    }

    int step(int step, int what) {
        return now.steps.get(step)[what];
    }

    int planByte(int index) {
        StringBuilder out = new StringBuilder();
        for (int[] step : now.steps) {
            out.append(step[0]).append(step[0] == step[1] ? "" : "-" + step[1]);
            out.append(":").append(step[2]).append(";");
        }
        return index < out.length() ? out.charAt(index) : -1;
    }

    /** Writes down for each tick of three rounds whether the channel is observed, and looks at the ways. */
    int revisit(int channel) {
        List<Boolean> seen = new ArrayList<>();
        for (int round = 0; round < 3; round++) {
            for (int[] step : now.steps) {
                for (int tick = 0; tick < step[2]; tick++) {
                    seen.add(step[0] <= channel && channel <= step[1]);
                }
            }
        }
        int longest = -1;
        for (int from = 0; from < seen.size(); from++) {
            int to = from + 1;
            while (to < seen.size() && !seen.get(to)) {
                to++;
            }
            if (seen.get(from) && to < seen.size()) {
                longest = Math.max(longest, to - from);
            }
        }
        return longest;
    }

    int run(int ticks) {
        save();
        for (int tick = 0; tick < ticks; tick++) {
            passTick();
        }
        return now.tick;
    }

    private void passTick() {
        now.tick++;
        if (now.steps.isEmpty()) {
            return;
        }
        int[] step = now.steps.get(now.present);
        for (int channel = step[0]; channel <= step[1]; channel++) {
            observe(channel, level(channel));
        }
        now.elapsed++;
        if (now.elapsed == step[2]) {
            now.elapsed = 0;
            now.present = (now.present + 1) % now.steps.size();
        }
    }

    private void observe(int channel, int level) {
        now.observed.get(channel).add(level);
        now.violations[channel] += level > now.masks[channel] ? 1 : 0;
        Event open = null;
        for (Event event : now.events) {
            open = event.open && event.channel == channel ? event : open;
        }
        if (level <= now.threshold) {
            if (open != null) {
                open.open = false;
            }
            return;
        }
        now.hits[channel]++;
        if (open == null) {
            open = openEvent(channel, level);
        }
        open.end = now.tick;
        open.peak = Math.max(open.peak, level);
    }

    private Event openEvent(int channel, int level) {
        if (now.events.size() == 50) {
            int drop = 0;
            while (now.events.get(drop).open) {
                drop++;
            }
            now.events.remove(drop);
        }
        Event event = new Event();
        event.channel = channel;
        event.start = now.tick;
        event.peak = level;
        event.open = true;
        now.events.add(event);
        return event;
    }

    int presentStep() {
        return now.steps.isEmpty() ? -1 : now.present;
    }

    int level(int channel) {
        int level = now.floor;
        for (int[] s : now.signals) {
            boolean active;
            int loud;
            if (s[0] == 0) {
                active = s[1] == channel && now.tick >= s[3] && (now.tick - s[3]) % s[5] < s[4];
                loud = s[2];
            } else {
                active = now.tick >= s[5] && (s[1] + (long) s[2] * ((now.tick - s[5]) / s[3])) % 32 == channel;
                loud = s[4];
            }
            level = active ? Math.max(level, loud) : level;
        }
        return level;
    }

    int detector(int channel, int what) {
        List<Integer> levels = now.observed.get(channel);
        switch (what) {
            case 0:
                return levels.size();
            case 1:
                return now.hits[channel];
            case 2:
                return levels.stream().max(Integer::compare).orElse(-1);
            default:
                return now.violations[channel];
        }
    }

    int average(int channel) {
        List<Integer> levels = now.observed.get(channel);
        List<Integer> latest = levels.subList(Math.max(0, levels.size() - 8), levels.size());
        return latest.isEmpty() ? -1 : latest.stream().mapToInt(level -> level).sum() / latest.size();
    }

    double occupancy(int channel) {
        int observations = now.observed.get(channel).size();
        return observations == 0 ? 0.0 : (double) now.hits[channel] / (double) observations;
    }

    int reset() {
        save();
        int previous = now.events.size();
        now.events.clear();
        now.hits = new int[32];
        now.violations = new int[32];
        for (List<Integer> levels : now.observed) {
            levels.clear();
        }
        return previous;
    }

    int events() {
        return now.events.size();
    }

    private int[] predecessors() {
        int[] predecessors = new int[now.events.size()];
        boolean[] followed = new boolean[now.events.size()];
        for (int number = 0; number < predecessors.length; number++) {
            Event b = now.events.get(number);
            int best = -1;
            for (int before = number - 1; before >= 0; before--) {
                Event a = now.events.get(before);
                boolean fits = !a.open && a.channel != b.channel && !followed[before] && a.end < b.start
                        && b.start - a.end <= now.gap && Math.abs(a.peak - b.peak) <= now.tolerance;
                if (fits && (best < 0 || a.end > now.events.get(best).end)) {
                    best = before;
                }
            }
            predecessors[number] = best;
            if (best >= 0) {
                followed[best] = true;
            }
        }
        return predecessors;
    }

    /** The numbers of the events of the chain of an event, ascending. */
    private List<Integer> chain(int event) {
        int[] predecessors = predecessors();
        List<Integer> chain = new ArrayList<>();
        for (int number = event; number >= 0; number = predecessors[number]) {
            chain.add(0, number);
        }
        for (int number = event + 1; number < predecessors.length; number++) {
            if (predecessors[number] == chain.get(chain.size() - 1)) {
                chain.add(number);
            }
        }
        return chain;
    }

    int event(int event, int what) {
        Event e = now.events.get(event);
        switch (what) {
            case 0:
                return e.channel;
            case 1:
                return e.start;
            case 2:
                return e.end;
            case 3:
                return e.peak;
            case 4:
                return e.open ? 1 : 0;
            case 5:
                return predecessors()[event];
            default:
                return chain(event).get(0);
        }
    }

    int chainLength(int event) {
        return chain(event).size();
    }

    int chains() {
        int chains = 0;
        for (int predecessor : predecessors()) {
            chains += predecessor < 0 ? 1 : 0;
        }
        return chains;
    }

    double hopInterval(int event) {
        List<Integer> chain = chain(event);
        if (chain.size() == 1) {
            return 0.0;
        }
        int first = now.events.get(chain.get(0)).start;
        int last = now.events.get(chain.get(chain.size() - 1)).start;
        return (double) (last - first) / (double) (chain.size() - 1);
    }

    int undo() {
        if (history.isEmpty()) {
            throw new IllegalStateException();
        }
        now = history.removeLast();
        return history.size();
    }

    long digest() {
        List<Integer> values = new ArrayList<>(List.of(text.length(), now.tick, now.floor, now.threshold,
                now.gap, now.tolerance, now.signals.size()));
        now.signals.forEach(signal -> addAll(values, signal));
        values.add(now.steps.size());
        now.steps.forEach(step -> addAll(values, step));
        values.add(presentStep());
        for (int channel = 0; channel < 32; channel++) {
            addAll(values, now.masks[channel], detector(channel, 0), detector(channel, 1), detector(channel, 2),
                    detector(channel, 3), average(channel));
        }
        values.add(now.events.size());
        for (int event = 0; event < now.events.size(); event++) {
            for (int what = 0; what < 7; what++) {
                values.add(event(event, what));
            }
        }
        values.add(history.size());
        long hash = 2851;
        for (int value : values) {
            hash = 31 * hash + value;
        }
        return hash;
    }

    private static void addAll(List<Integer> values, int... more) {
        for (int value : more) {
            values.add(value);
        }
    }
}
