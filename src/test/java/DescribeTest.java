/** Promise 7. */
public final class DescribeTest {
    public static void main(String[] args) {
        describesEachOfEight();
        refusesOtherComponents();
        takesEachInterfaceOrNone();
        takesEachRank();
        refusesOneThatIsNotOff();
        leavesNoReferences();
        leavesNothingOfTheOldDescription();
        goesOnCounting();
        isDelayedOnlyWithAnInterface();
        mayFail();
        Checks.end();
    }

    private static void describesEachOfEight() {
        Hall hall = new Hall();
        for (int c = 0; c < 8; c++) {
            Checks.due("component " + c, hall.describe(c, c % 6, c, false, false), 1);
            Checks.due("is OFF", hall.look(c, 0), ServiceHall.OFF);
        }
        for (int c = 7; c >= 0; c--) {
            Checks.due("component " + c, hall.enable(c, true), ServiceHall.ACTIVE);
            Checks.dueText("its service", hall.told(7 - c), "1 " + c % 6 + " " + c + " " + c + " 0");
        }
    }

    private static void refusesOtherComponents() {
        Hall hall = new Hall();
        for (int c : Checks.outside(0, 7)) {
            Checks.refused(hall, Checks.ARGUMENT, "component " + c, () -> hall.describe(c, 0, 0, false, false));
        }
    }

    /** "provides not -1..5" */
    private static void takesEachInterfaceOrNone() {
        Hall hall = new Hall();
        for (int provides = -1; provides <= 5; provides++) {
            int c = provides + 1;
            Checks.due("provides " + provides, hall.describe(c, provides, 0, false, false), 1);
            hall.enable(c, true);
            Checks.due("its service", hall.look(c, 1), provides);
        }
        Checks.due("one less than the components", hall.count(0), 6);
        for (int s = 0; s < 6; s++) {
            Checks.due("the interface", hall.service(s, 1), s);
        }
        for (int provides : Checks.outside(-1, 5)) {
            Checks.refused(hall, Checks.ARGUMENT, "provides " + provides,
                    () -> hall.describe(7, provides, 0, false, false));
        }
    }

    private static void takesEachRank() {
        Hall hall = new Hall();
        int[] ranks = {0, -1, Integer.MAX_VALUE, Integer.MIN_VALUE};
        for (int c = 0; c < ranks.length; c++) {
            hall.describe(c, 0, ranks[c], false, false);
            hall.enable(c, true);
            Checks.due("its service's rank", hall.service(c, 2), ranks[c]);
        }
        Checks.due("the best", hall.best(0, -1), 2);
    }

    private static void refusesOneThatIsNotOff() {
        Hall hall = new Hall();
        Checks.component(hall, 1, 1, false, 0, 1);
        hall.describe(2, 2, 0, true, false);
        hall.describe(3, 3, 0, false, false);
        hall.describe(4, 4, 0, false, true);
        for (int n = ServiceHall.WAITING; n <= ServiceHall.BROKEN; n++) {
            int c = n;
            Checks.due("component " + c + " stands so", hall.enable(c, true), c);
            Checks.refused(hall, Checks.STATE, "component " + c, () -> hall.describe(c, 5, 1, false, false));
            Checks.refused(hall, Checks.STATE, "component " + c, () -> hall.describe(c, -1, 1, true, true));
        }
        for (int c = ServiceHall.WAITING; c <= ServiceHall.BROKEN; c++) {
            hall.enable(c, false);
            Checks.due("OFF again", hall.describe(c, -1, 0, false, false), 1);
        }
    }

    private static void leavesNoReferences() {
        Hall hall = new Hall();
        for (int n = 0; n < 3; n++) {
            hall.reference(0, 4, 1, -1);
        }
        hall.describe(0, -1, 0, false, false);
        Checks.due("none", hall.look(0, 5), 0);
        Checks.due("it waits for nothing", hall.enable(0, true), ServiceHall.ACTIVE);
        hall.enable(0, false);
        for (int n = 1; n <= 3; n++) {
            Checks.due("there is room for three again", hall.reference(0, 0, 0, -1), n);
        }
        Checks.due("they are as they were added", hall.enable(0, true), ServiceHall.ACTIVE);
    }

    private static void leavesNothingOfTheOldDescription() {
        Hall hall = new Hall();
        hall.describe(0, 3, 9, true, true);
        hall.describe(0, 2, 1, false, false);
        Checks.due("neither delayed nor failing", hall.enable(0, true), ServiceHall.ACTIVE);
        Checks.dueText("its service", hall.told(0), "1 2 1 0 0");
        hall.enable(0, false);
        hall.describe(0, 3, 9, true, true);
        Checks.due("both", hall.enable(0, true), ServiceHall.READY);
        Checks.dueText("its service", hall.told(1), "1 3 9 0 0");
        Checks.thrown(Checks.STATE, "it fails", () -> hall.get(1));
        Checks.due("a service that is gone stays its own", hall.service(0, 3), 0);
    }

    private static void goesOnCounting() {
        Hall hall = new Hall();
        hall.enable(0, true);
        hall.enable(0, false);
        hall.describe(0, -1, 0, false, true);
        hall.enable(0, true);
        hall.enable(0, false);
        hall.describe(0, -1, 0, false, false);
        Checks.dueText("ACTIVE, did not work, INACTIVE", hall.looks(0), "0 -1 1 1 1 0 0 0 0");
        hall.enable(0, true);
        Checks.due("once more", hall.look(0, 2), 2);
    }

    /** "DELAYED (only if it PROVIDES one; else it never is)" */
    private static void isDelayedOnlyWithAnInterface() {
        Hall hall = new Hall();
        hall.describe(0, -1, 0, true, false);
        Checks.due("it provides nothing, so it is made at once", hall.enable(0, true), ServiceHall.ACTIVE);
        hall.describe(1, 0, 0, true, false);
        Checks.due("it can wait to be asked for", hall.enable(1, true), ServiceHall.READY);
        hall.describe(2, 0, 0, false, false);
        Checks.due("it does not want to wait", hall.enable(2, true), ServiceHall.ACTIVE);
    }

    private static void mayFail() {
        Hall hall = new Hall();
        hall.register(0, 0);
        hall.describe(0, 1, 0, false, true);
        hall.reference(0, 0, 2, -1);
        Checks.due("it does not work", hall.enable(0, true), ServiceHall.BROKEN);
        Checks.dueText("once, and was never ACTIVE", hall.looks(0), "4 -1 0 1 0 1 0 0 0");
        Checks.due("it bound before", hall.count(4), 1);
        Checks.due("and gave back", hall.service(0, 4), 0);
        Checks.due("no service came from it", hall.count(0), 1);
        hall.enable(0, false);
        hall.describe(0, 1, 0, false, false);
        Checks.due("described anew it works", hall.enable(0, true), ServiceHall.ACTIVE);
    }
}
