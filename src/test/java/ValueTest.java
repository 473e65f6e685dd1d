/** Promise 13. */
public final class ValueTest {
    public static void main(String[] args) {
        tellsEachOfSix();
        refusesNumbersThatNeverWere();
        refusesOtherProperties();
        refusesWhatIsNone();
        tellsOfOneThatIsGone();
        refusesAComponents();
        Checks.end();
    }

    private static void tellsEachOfSix() {
        Hall hall = new Hall();
        hall.register(0, 0);
        hall.register(0, 0);
        for (int k = 0; k < 6; k++) {
            hall.property(0, k, k + 0.25, false);
            hall.property(1, k, -1e300 * k, false);
        }
        for (int k = 0; k < 6; k++) {
            Checks.due("property " + k, hall.value(0, k), k + 0.25);
            Checks.due("of another service", hall.value(1, k), -1e300 * k);
        }
    }

    private static void refusesNumbersThatNeverWere() {
        Hall hall = new Hall();
        Checks.refused(hall, Checks.ELEMENT, "service 0 of none", () -> hall.value(0, 0));
        hall.property(hall.register(0, 0), 0, 1, false);
        for (int s : Checks.outside(0, 0)) {
            Checks.refused(hall, Checks.ELEMENT, "service " + s, () -> hall.value(s, 0));
        }
        Checks.register(hall, 49, 0);
        hall.property(49, 0, 2, false);
        Checks.refused(hall, Checks.ELEMENT, "service 50 of 50", () -> hall.value(50, 0));
        Checks.due("the last", hall.value(49, 0), 2);
    }

    private static void refusesOtherProperties() {
        Hall hall = new Hall();
        hall.register(0, 0);
        for (int k = 0; k < 6; k++) {
            hall.property(0, k, 1, false);
        }
        for (int k : Checks.outside(0, 5)) {
            Checks.refused(hall, Checks.ARGUMENT, "property " + k, () -> hall.value(0, k));
        }
    }

    private static void refusesWhatIsNone() {
        Hall hall = new Hall();
        hall.register(0, 0);
        for (int n = 0; n < 6; n++) {
            int k = n;
            Checks.refused(hall, Checks.ELEMENT, "never set", () -> hall.value(0, k));
            hall.property(0, k, 1, false);
            Checks.due("set", hall.value(0, k), 1);
            hall.property(0, k, 1, true);
            Checks.refused(hall, Checks.ELEMENT, "taken away", () -> hall.value(0, k));
        }
    }

    /** "(THERE or not)" */
    private static void tellsOfOneThatIsGone() {
        Hall hall = new Hall();
        hall.property(hall.register(0, 0), 5, 1.25, false);
        hall.withdraw(0);
        Checks.due("as it was", hall.value(0, 5), 1.25);
        Checks.refused(hall, Checks.ELEMENT, "it has none", () -> hall.value(0, 0));
        Checks.refused(hall, Checks.ARGUMENT, "property 6", () -> hall.value(0, 6));
    }

    private static void refusesAComponents() {
        Hall hall = new Hall();
        hall.describe(0, 0, 0, false, false);
        hall.enable(0, true);
        for (int n = 0; n < 6; n++) {
            int k = n;
            Checks.refused(hall, Checks.ELEMENT, "it has none", () -> hall.value(0, k));
        }
    }
}
