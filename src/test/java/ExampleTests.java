/** The five examples of the document. */
public final class ExampleTests {
    private static final Checks CHECKS = new Checks();

    public static void main(String[] args) {
        pulsedSignal();
        hoppingSignal();
        textWithError();
        revisitTimes();
        withoutPlan();
        CHECKS.finish();
    }

    private static void type(OccupancyMonitor x, int... bytes) {
        for (int index = 0; index < bytes.length; index++) {
            CHECKS.due("append(" + bytes[index] + ")", x.append(bytes[index]), index + 1);
        }
    }

    private static void pulsedSignal() {
        OccupancyMonitor x = new OccupancyMonitor();
        type(x, 48, 45, 55, 58, 50, 59);
        CHECKS.due("1: parsePlan()", x.parsePlan(), 1);
        CHECKS.due("1: addPulsed(3, 60, 2, 1, 5)", x.addPulsed(3, 60, 2, 1, 5), 0);
        CHECKS.due("1: run(8)", x.run(8), 8);
        CHECKS.due("1: detector(3, 1)", x.detector(3, 1), 2);
        CHECKS.dueDouble("1: occupancy(3)", x.occupancy(3), 0.25);
        CHECKS.due("1: events()", x.events(), 2);
        CHECKS.due("1: event(0, 1)", x.event(0, 1), 2);
        CHECKS.due("1: event(0, 4)", x.event(0, 4), 0);
    }

    private static void hoppingSignal() {
        OccupancyMonitor x = new OccupancyMonitor();
        type(x, 48, 45, 51, 49, 58, 49, 59);
        CHECKS.due("2: parsePlan()", x.parsePlan(), 1);
        CHECKS.due("2: addHopping(4, 5, 3, 70, 2)", x.addHopping(4, 5, 3, 70, 2), 0);
        CHECKS.due("2: run(12)", x.run(12), 12);
        CHECKS.due("2: events()", x.events(), 4);
        CHECKS.due("2: event(1, 5)", x.event(1, 5), 0);
        CHECKS.due("2: chains()", x.chains(), 1);
        CHECKS.dueDouble("2: hopInterval(0)", x.hopInterval(0), 3.0);
    }

    private static void textWithError() {
        OccupancyMonitor x = new OccupancyMonitor();
        type(x, 53, 45, 52, 58, 49, 59);
        CHECKS.due("3: parsePlan()", x.parsePlan(), -12);
        CHECKS.due("3: steps()", x.steps(), 0);
    }

    private static void revisitTimes() {
        OccupancyMonitor x = new OccupancyMonitor();
        type(x, 49, 58, 50, 59, 50, 58, 51, 59);
        CHECKS.due("4: parsePlan()", x.parsePlan(), 2);
        CHECKS.due("4: revisit(1)", x.revisit(1), 4);
        CHECKS.due("4: revisit(2)", x.revisit(2), 3);
        CHECKS.due("4: planByte(0)", x.planByte(0), 49);
    }

    private static void withoutPlan() {
        OccupancyMonitor x = new OccupancyMonitor();
        CHECKS.due("5: run(5)", x.run(5), 5);
        CHECKS.due("5: level(0)", x.level(0), 10);
        CHECKS.due("5: average(0)", x.average(0), -1);
        CHECKS.due("5: revisit(0)", x.revisit(0), -1);
        CHECKS.dueThrows("5: event(0, 0)", x, Checks.INDEX, () -> x.event(0, 0));
        CHECKS.dueThrows("5: addPulsed(32, 0, 0, 1, 1)", x, Checks.ARGUMENT, () -> x.addPulsed(32, 0, 0, 1, 1));
    }
}
