/** Promise 6. */
public final class PropertyTest {
    public static void main(String[] args) {
        setsEachOfSix();
        answersWhetherThereWasOne();
        takesEachReal();
        refusesOtherProperties();
        refusesNumbersThatNeverWere();
        refusesWhatIsGone();
        refusesWhatComesFromAComponent();
        isNotedEachTime();
        changesTargets();
        Checks.end();
    }

    private static void setsEachOfSix() {
        Hall hall = new Hall();
        hall.register(0, 0);
        hall.register(0, 0);
        for (int k = 0; k < 6; k++) {
            Checks.due("there was none", hall.property(0, k, k + 0.5, false), 0);
        }
        for (int k = 0; k < 6; k++) {
            int none = k;
            Checks.due("property " + k, hall.value(0, k), k + 0.5);
            Checks.refused(hall, Checks.ELEMENT, "of the other service", () -> hall.value(1, none));
        }
    }

    private static void answersWhetherThereWasOne() {
        Hall hall = new Hall();
        hall.register(0, 0);
        Checks.due("none taken away", hall.property(0, 2, 0, true), 0);
        Checks.due("set", hall.property(0, 2, 0, false), 0);
        Checks.due("set again", hall.property(0, 2, 7, false), 1);
        Checks.due("the last that was set", hall.value(0, 2), 7);
        Checks.due("taken away", hall.property(0, 2, 9, true), 1);
        Checks.refused(hall, Checks.ELEMENT, "it has none, not 9", () -> hall.value(0, 2));
        Checks.due("taken away again", hall.property(0, 2, 9, true), 0);
        Checks.due("set behind that", hall.property(0, 2, 3, false), 0);
        Checks.due("another was never there", hall.property(0, 3, 3, false), 0);
    }

    private static void takesEachReal() {
        Hall hall = new Hall();
        hall.register(0, 0);
        double[] reals = {0.0, -0.0, Double.MIN_VALUE, -Double.MAX_VALUE, Double.POSITIVE_INFINITY,
            Double.NEGATIVE_INFINITY, Double.NaN};
        for (double real : reals) {
            hall.property(0, 0, real, false);
            Checks.due("the very real", Double.compare(hall.value(0, 0), real), 0);
        }
    }

    private static void refusesOtherProperties() {
        Hall hall = new Hall();
        hall.register(0, 0);
        for (int k : Checks.outside(0, 5)) {
            Checks.refused(hall, Checks.ARGUMENT, "set " + k, () -> hall.property(0, k, 1, false));
            Checks.refused(hall, Checks.ARGUMENT, "none " + k, () -> hall.property(0, k, 1, true));
        }
    }

    private static void refusesNumbersThatNeverWere() {
        Hall hall = new Hall();
        Checks.refused(hall, Checks.ELEMENT, "service 0 of none", () -> hall.property(0, 0, 1, false));
        hall.register(0, 0);
        for (int s : Checks.outside(0, 0)) {
            Checks.refused(hall, Checks.ELEMENT, "service " + s, () -> hall.property(s, 0, 1, false));
        }
        Checks.register(hall, 49, 0);
        Checks.refused(hall, Checks.ELEMENT, "service 50 of 50", () -> hall.property(50, 0, 1, false));
        Checks.due("the last", hall.property(49, 0, 1, false), 0);
    }

    private static void refusesWhatIsGone() {
        Hall hall = new Hall();
        hall.property(hall.register(0, 0), 0, 1, false);
        hall.get(0);
        hall.withdraw(0);
        Checks.refused(hall, Checks.ELEMENT, "gone, though somebody has it", () -> hall.property(0, 0, 2, false));
        Checks.due("it is as it was", hall.value(0, 0), 1);
    }

    private static void refusesWhatComesFromAComponent() {
        Hall hall = new Hall();
        hall.describe(0, 0, 0, false, false);
        hall.describe(1, 0, 0, true, false);
        hall.enable(0, true);
        hall.enable(1, true);
        Checks.refused(hall, Checks.ELEMENT, "from one that is ACTIVE", () -> hall.property(0, 0, 1, false));
        Checks.refused(hall, Checks.ELEMENT, "from one that is READY", () -> hall.property(1, 0, 1, false));
        Checks.refused(hall, Checks.ELEMENT, "none of it", () -> hall.property(0, 0, 1, true));
    }

    private static void isNotedEachTime() {
        Hall hall = new Hall();
        hall.register(0, 0);
        hall.property(0, 0, 1, false);
        Checks.due("set", hall.count(2), 2);
        hall.property(0, 0, 1, false);
        Checks.due("set to the same", hall.count(2), 3);
        hall.property(0, 0, 1, true);
        Checks.due("taken away", hall.count(2), 4);
        hall.property(0, 0, 1, true);
        Checks.due("where there was none", hall.count(2), 5);
        Checks.refused(hall, Checks.ARGUMENT, "k", () -> hall.property(0, 6, 1, true));
        Checks.due("none for what was refused", hall.count(2), 5);
    }

    private static void changesTargets() {
        Hall hall = new Hall();
        Checks.setFilter(hall, 0, "(b>=2)");
        hall.reference(0, 0, 1, 0);
        hall.reference(1, 0, 2 + 4, 0);
        hall.enable(0, true);
        hall.enable(1, true);
        hall.register(0, 0);
        Checks.due("without the property", hall.look(0, 0), ServiceHall.WAITING);
        hall.property(0, 1, 1, false);
        Checks.due("with too little", hall.look(0, 0), ServiceHall.WAITING);
        hall.property(0, 1, 2, false);
        Checks.due("with enough", hall.look(0, 0), ServiceHall.ACTIVE);
        Checks.dueText("bound by the other too", hall.row(1, 0), "0");
        hall.property(0, 1, 3, false);
        Checks.due("still enough: nothing is made anew", hall.look(0, 2), 1);
        hall.property(0, 1, 0, true);
        Checks.due("without it again", hall.look(0, 0), ServiceHall.WAITING);
        Checks.dueText("the other one lets it go", hall.row(1, 0), "");
        Checks.due("and is still there", hall.look(1, 2), 1);
        Checks.due("no uses are left", hall.service(0, 4), 0);
    }
}
