import java.lang.management.ManagementFactory;
import java.lang.reflect.Array;
import java.lang.reflect.Field;
import java.lang.reflect.Modifier;
import java.util.Collections;
import java.util.IdentityHashMap;
import java.util.Set;

/** How much room an object takes, and that calls take none. */
public final class RoomTests {
    private static final int MOST_OBJECTS = 150;
    private static final int MOST_ELEMENTS = 7000;
    private static final Checks CHECKS = new Checks();

    private final Set<Object> found = Collections.newSetFromMap(new IdentityHashMap<>());
    private int elements;

    public static void main(String[] args) throws IllegalAccessException {
        RoomTests room = new RoomTests();
        room.count(new OccupancyMonitor());
        System.out.println(room.found.size() + " objects and arrays, " + room.elements + " fields and elements");
        CHECKS.due("few objects", room.found.size() <= MOST_OBJECTS ? 1 : 0, 1);
        CHECKS.due("few elements", room.elements <= MOST_ELEMENTS ? 1 : 0, 1);
        callsMakeNothing();
        CHECKS.finish();
    }

    private void count(Object object) throws IllegalAccessException {
        if (object == null || !found.add(object)) {
            return;
        }
        if (object.getClass().isArray()) {
            elements += Array.getLength(object);
            for (int index = 0; object instanceof Object[] && index < Array.getLength(object); index++) {
                count(Array.get(object, index));
            }
            return;
        }
        for (Field field : object.getClass().getDeclaredFields()) {
            if (!Modifier.isStatic(field.getModifiers())) {
                elements++;
                field.setAccessible(true);
                if (!field.getType().isPrimitive()) {
                    count(field.get(object));
                }
            }
        }
    }

    private static void callsMakeNothing() {
        com.sun.management.ThreadMXBean threads =
                (com.sun.management.ThreadMXBean) ManagementFactory.getThreadMXBean();
        OccupancyMonitor x = new OccupancyMonitor();
        everyCall(x);
        long thread = Thread.currentThread().getId();
        long before = threads.getThreadAllocatedBytes(thread);
        everyCall(x);
        everyCall(x);
        long made = threads.getThreadAllocatedBytes(thread) - before;
        // The measuring makes some; one copy of a state alone would be more.
        CHECKS.due("the calls make nothing", made <= 1024 ? 0 : made, 0);
    }

    private static void everyCall(OccupancyMonitor x) {
        x.clearText();
        for (int index = 0; index < 25; index++) {
            x.append("0-31:1;0-9:2;8-12:20;3:1; ".charAt(index));
        }
        x.parsePlan();
        x.addPulsed(3, 60, 0, 1, 2);
        x.addHopping(1, 5, 1, 60, 0);
        x.setLevels(10, 30);
        x.setMask(0, 31, 50);
        x.setHops(10, 5);
        x.run(300);
        x.removeSignal(0);
        x.steps();
        x.step(0, 0);
        x.planByte(3);
        x.revisit(3);
        x.presentStep();
        x.level(3);
        x.detector(3, 0);
        x.average(3);
        x.occupancy(3);
        x.events();
        x.event(3, 6);
        x.chainLength(3);
        x.chains();
        x.hopInterval(3);
        x.undo();
        x.reset();
        x.digest();
    }
}
