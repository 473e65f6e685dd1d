import java.util.NoSuchElementException;

/** Promise 1. What a call that throws leaves changed is looked at by Checks.refused in all tests. */
public final class NewObjectTest {
    public static void main(String[] args) {
        isEmpty();
        isApartFromOthers();
        throwsTheFirstInTheHeading();
        Checks.end();
    }

    private static void isEmpty() {
        ServiceHall hall = new ServiceHall();
        for (int what = 0; what <= 5; what++) {
            Checks.due("count " + what, hall.count(what), 0);
        }
        for (int c = 0; c < 8; c++) {
            for (int what = 0; what <= 8; what++) {
                Checks.due("look " + c + " " + what, hall.look(c, what), what == 1 ? -1 : 0);
            }
        }
        for (int f = 0; f < 6; f++) {
            int none = f;
            Checks.refused(hall, NoSuchElementException.class, "filter " + f, () -> hall.reference(0, 0, 0, none));
        }
        Checks.refused(hall, NoSuchElementException.class, "service 0", () -> hall.service(0, 0));
        Checks.due("one that was never described provides nothing", hall.enable(7, true), ServiceHall.ACTIVE);
        Checks.due("services", hall.count(0), 0);
    }

    private static void isApartFromOthers() {
        ServiceHall one = new ServiceHall();
        ServiceHall other = new ServiceHall();
        String before = Checks.shown(other);
        Checks.setFilter(one, 0, "(a=1)");
        Checks.write(one, "(b");
        one.property(one.register(0, 0), 0, 1, false);
        one.describe(0, 1, 0, false, false);
        one.reference(0, 0, 1, 0);
        one.enable(0, true);
        Checks.dueText("another object", Checks.shown(other), before);
    }

    private static void throwsTheFirstInTheHeading() {
        ServiceHall hall = new ServiceHall();
        Checks.setFilter(hall, 0, "(a=1)");
        for (int n = 0; n < 3; n++) {
            hall.reference(0, 0, 0, 0);
        }
        hall.enable(0, true);
        Class<IllegalArgumentException> argument = IllegalArgumentException.class;
        Class<IllegalStateException> state = IllegalStateException.class;
        Class<NoSuchElementException> element = NoSuchElementException.class;
        Checks.refused(hall, argument, "reference: kind, filter, state, room", () -> hall.reference(0, 0, 16, 3));
        Checks.refused(hall, element, "reference: filter, state, room", () -> hall.reference(0, 0, 0, 3));
        Checks.refused(hall, state, "reference: state, room", () -> hall.reference(0, 0, 0, 0));
        hall.enable(0, false);
        Checks.refused(hall, element, "reference: filter, room", () -> hall.reference(0, 0, 0, 3));
        Checks.refused(hall, IndexOutOfBoundsException.class, "reference: room", () -> hall.reference(0, 0, 0, 0));
        hall.enable(0, true);
        Checks.refused(hall, argument, "describe: interface, state", () -> hall.describe(0, 6, 0, false, false));
        Checks.refused(hall, element, "property: service, k", () -> hall.property(0, 6, 0, false) ? 1 : 0);
        Checks.refused(hall, element, "value: service, k", () -> hall.value(0, 6));
        Checks.refused(hall, element, "service: service, what", () -> hall.service(0, 9));
        Checks.refused(hall, argument, "best: interface, filter", () -> hall.best(6, 3));
        Checks.refused(hall, argument, "bound: component, place", () -> hall.bound(8, 9, 9));
        hall.register(0, 0);
        Checks.refused(hall, argument, "value: k, property", () -> hall.value(0, 6));
        for (int s = 1; s < 50; s++) {
            hall.register(0, 0);
        }
        Checks.refused(hall, argument, "register: interface, number", () -> hall.register(6, 0));
    }
}
