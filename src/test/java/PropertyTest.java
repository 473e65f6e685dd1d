import java.util.NoSuchElementException;

/** Promise 6. */
public final class PropertyTest {
    public static void main(String[] args) {
        ServiceHall hall = new ServiceHall();
        hall.register(0, 0);
        for (int k = 0; k < 6; k++) {
            Checks.due("there was none", hall.property(0, k, k + 0.5, false) ? 1 : 0, 0);
            Checks.due("there was one", hall.property(0, k, k + 0.25, false) ? 1 : 0, 1);
            Checks.due("the last that was set", hall.value(0, k), k + 0.25);
        }
        Checks.due("taken away", hall.property(0, 2, 9, true) ? 1 : 0, 1);
        Checks.refused(hall, NoSuchElementException.class, "it has none", () -> hall.value(0, 2));
        Checks.due("taken away again", hall.property(0, 2, 9, true) ? 1 : 0, 0);
        Checks.due("each is noted", hall.count(2), 15);
        refusals(hall);
        changesTargets();
        Checks.end();
    }

    private static void refusals(ServiceHall hall) {
        Class<NoSuchElementException> missing = NoSuchElementException.class;
        for (int k : new int[] {-1, 6, Integer.MIN_VALUE, Integer.MAX_VALUE}) {
            Checks.refused(hall, IllegalArgumentException.class, "k " + k, () -> hall.property(0, k, 0, false) ? 1 : 0);
        }
        Checks.refused(hall, missing, "service -1", () -> hall.property(-1, 0, 0, false) ? 1 : 0);
        Checks.refused(hall, missing, "service 1", () -> hall.property(1, 0, 0, false) ? 1 : 0);
        hall.describe(0, 0, 0, false, false);
        hall.enable(0, true);
        Checks.refused(hall, missing, "from a component", () -> hall.property(1, 0, 0, false) ? 1 : 0);
        hall.withdraw(0);
        Checks.refused(hall, missing, "gone", () -> hall.property(0, 0, 0, false) ? 1 : 0);
    }

    private static void changesTargets() {
        ServiceHall hall = new ServiceHall();
        Checks.setFilter(hall, 0, "(b>=2)");
        hall.describe(0, -1, 0, false, false);
        hall.reference(0, 0, 1, 0);
        hall.describe(1, -1, 0, false, false);
        hall.reference(1, 0, 2 + 4, 0);
        hall.enable(0, true);
        hall.enable(1, true);
        hall.register(0, 0);
        Checks.due("without the property", hall.look(0, 0), ServiceHall.WAITING);
        hall.property(0, 1, 1, false);
        Checks.due("with too little", hall.look(0, 0), ServiceHall.WAITING);
        hall.property(0, 1, 2, false);
        Checks.due("with enough", hall.look(0, 0), ServiceHall.ACTIVE);
        Checks.dueText("bound by the other too", Checks.row(hall, 1, 0), "0");
        hall.property(0, 1, 3, false);
        Checks.due("still enough: nothing is made anew", hall.look(0, 2), 1);
        hall.property(0, 1, 0, true);
        Checks.due("without it again", hall.look(0, 0), ServiceHall.WAITING);
        Checks.dueText("the other one lets it go", Checks.row(hall, 1, 0), "");
        Checks.due("and is still there", hall.look(1, 2), 1);
        Checks.due("no uses are left", hall.service(0, 4), 0);
    }
}
