import java.lang.reflect.Constructor;
import java.lang.reflect.Field;
import java.lang.reflect.Method;
import java.lang.reflect.Modifier;
import java.util.Arrays;
import java.util.TreeSet;

/** The public face is the document's and nothing more. */
public final class FaceTests {
    private static final Checks CHECKS = new Checks();
    private static final String[] METHODS = {
        "int addPulsed(int,int,int,int,int)", "int addHopping(int,int,int,int,int)", "int removeSignal(int)",
        "int setLevels(int,int)", "int setMask(int,int,int)", "int setHops(int,int)", "int append(int)",
        "int clearText()", "int parsePlan()", "int steps()", "int step(int,int)", "int planByte(int)",
        "int revisit(int)", "int run(int)", "int presentStep()", "int level(int)", "int detector(int,int)",
        "int average(int)", "double occupancy(int)", "int reset()", "int events()", "int event(int,int)",
        "int chainLength(int)", "int chains()", "double hopInterval(int)", "int undo()", "long digest()"
    };

    public static void main(String[] args) {
        Class<OccupancyMonitor> face = OccupancyMonitor.class;
        CHECKS.due("the class is public and final", face.getModifiers(), Modifier.PUBLIC | Modifier.FINAL);
        methods(face);
        constructors(face);
        fields(face);
        classes(face);
        CHECKS.finish();
    }

    private static void methods(Class<?> face) {
        TreeSet<String> found = new TreeSet<>();
        TreeSet<String> names = new TreeSet<>();
        for (Method method : face.getDeclaredMethods()) {
            if (Modifier.isPublic(method.getModifiers())) {
                String types = Arrays.toString(method.getParameterTypes()).replace(", ", ",");
                found.add(method.getReturnType() + " " + method.getName() + "("
                        + types.substring(1, types.length() - 1) + ")");
                names.add(method.getName());
            }
        }
        CHECKS.dueText("the public methods", found.toString(), new TreeSet<>(Arrays.asList(METHODS)).toString());
        for (Method method : face.getDeclaredMethods()) {
            if (!Modifier.isPublic(method.getModifiers())) {
                CHECKS.due(method + " is private", method.getModifiers() & Modifier.PRIVATE, Modifier.PRIVATE);
                CHECKS.due(method + " bears a public name", names.contains(method.getName()) ? 1 : 0, 0);
            }
        }
    }

    private static void constructors(Class<?> face) {
        Constructor<?>[] made = face.getDeclaredConstructors();
        CHECKS.due("the constructors", made.length, 1);
        CHECKS.due("the constructor is public", made[0].getModifiers(), Modifier.PUBLIC);
        CHECKS.due("the constructor's parameters", made[0].getParameterCount(), 0);
    }

    private static void fields(Class<?> face) {
        for (Field field : face.getDeclaredFields()) {
            boolean none = field.getName().equals("NONE");
            int due = none ? Modifier.PUBLIC : Modifier.PRIVATE;
            CHECKS.due(field + " can be seen", field.getModifiers() & (Modifier.PUBLIC | Modifier.PRIVATE), due);
            CHECKS.due(field + " is final", field.getModifiers() & Modifier.FINAL, Modifier.FINAL);
        }
    }

    private static void classes(Class<?> face) {
        for (Class<?> inside : face.getDeclaredClasses()) {
            int due = Modifier.PRIVATE | Modifier.STATIC | Modifier.FINAL;
            CHECKS.due(inside + " is private, static and final", inside.getModifiers(), due);
            for (Field field : inside.getDeclaredFields()) {
                boolean loose = Modifier.isStatic(field.getModifiers()) && !Modifier.isFinal(field.getModifiers());
                CHECKS.due(field + " is static state", loose ? 1 : 0, 0);
            }
        }
    }
}
