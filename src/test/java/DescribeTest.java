/** Promise 7. */
public final class DescribeTest {
    public static void main(String[] args) {
        ServiceHall hall = new ServiceHall();
        Checks.due("described", hall.describe(0, 5, -3, false, false), 1);
        Checks.due("it has a service", hall.enable(0, true), ServiceHall.ACTIVE);
        Checks.due("of its interface", hall.service(0, 1), 5);
        Checks.due("of its rank", hall.service(0, 2), -3);
        refusals(hall);
        hall.enable(0, false);
        anew(hall);
        delayedOnlyWithAnInterface();
        failing();
        Checks.end();
    }

    private static void refusals(ServiceHall hall) {
        Class<IllegalArgumentException> refusal = IllegalArgumentException.class;
        for (int c : new int[] {-1, 8, Integer.MIN_VALUE, Integer.MAX_VALUE}) {
            Checks.refused(hall, refusal, "component " + c, () -> hall.describe(c, 0, 0, false, false));
        }
        for (int i : new int[] {-2, 6, Integer.MIN_VALUE, Integer.MAX_VALUE}) {
            Checks.refused(hall, refusal, "interface " + i, () -> hall.describe(1, i, 0, false, false));
        }
        Checks.refused(hall, IllegalStateException.class, "ACTIVE", () -> hall.describe(0, 0, 0, false, false));
        Checks.component(hall, 1, 0, false, 0, 1);
        hall.enable(1, true);
        Checks.refused(hall, IllegalStateException.class, "WAITING", () -> hall.describe(1, 0, 0, false, false));
        hall.describe(2, 0, 0, true, false);
        hall.enable(2, true);
        Checks.refused(hall, IllegalStateException.class, "READY", () -> hall.describe(2, 0, 0, false, false));
        hall.describe(3, 0, 0, false, true);
        hall.enable(3, true);
        Checks.refused(hall, IllegalStateException.class, "BROKEN", () -> hall.describe(3, 0, 0, false, false));
    }

    private static void anew(ServiceHall hall) {
        hall.reference(0, 4, 1, -1);
        hall.reference(0, 4, 1, -1);
        Checks.due("described again", hall.describe(0, -1, 0, false, false), 1);
        Checks.due("without references", hall.look(0, 5), 0);
        int services = hall.count(0);
        Checks.due("it waits for nothing", hall.enable(0, true), ServiceHall.ACTIVE);
        Checks.due("and provides nothing", hall.count(0), services);
        Checks.due("how often it was ACTIVE goes on", hall.look(0, 2), 2);
        Checks.due("a service that is gone stays its own", hall.service(0, 3), 0);
    }

    private static void delayedOnlyWithAnInterface() {
        ServiceHall hall = new ServiceHall();
        hall.describe(0, -1, 0, true, false);
        Checks.due("it provides nothing, so it is made at once", hall.enable(0, true), ServiceHall.ACTIVE);
        hall.describe(1, 0, 0, true, false);
        Checks.due("it can wait to be asked for", hall.enable(1, true), ServiceHall.READY);
    }

    private static void failing() {
        ServiceHall hall = new ServiceHall();
        hall.register(0, 0);
        hall.describe(0, 1, 0, false, true);
        hall.reference(0, 0, 2, -1);
        Checks.due("it does not work", hall.enable(0, true), ServiceHall.BROKEN);
        Checks.due("it did not once", hall.look(0, 3), 1);
        Checks.due("it was never ACTIVE", hall.look(0, 2) + hall.look(0, 4), 0);
        Checks.due("it bound before", hall.count(4), 1);
        Checks.due("and gave back", hall.service(0, 4) + hall.look(0, 6), 0);
        Checks.due("no service came from it", hall.count(0), 1);
        hall.enable(0, false);
        hall.describe(0, 1, 0, false, false);
        Checks.due("described anew it works", hall.enable(0, true), ServiceHall.ACTIVE);
    }
}
