/** Promise 1: "Of several exceptions the first in the heading is thrown", for each two of a heading that can meet. */
public final class FirstExceptionTest {
    public static void main(String[] args) {
        ofText();
        ofFilter();
        ofRegister();
        ofProperty();
        ofDescribe();
        ofReference();
        ofGet();
        ofBest();
        ofValue();
        ofBound();
        ofService();
        Checks.end();
    }

    private static void ofText() {
        Hall hall = new Hall();
        Checks.write(hall, "(|(a=1)(b=1)(c=1)(d=1)(e<=1234))");
        Checks.refused(hall, Checks.ARGUMENT, "none, and it is full", () -> hall.text(0));
        Checks.refused(hall, Checks.ARGUMENT, "a wrong one, and it is full", () -> hall.text(127));
        Checks.refused(hall, Checks.ARGUMENT, "a wrong one behind too many", () -> hall.text(32 << 8 | 'a'));
        Checks.refused(hall, Checks.INDEX, "it is full", () -> hall.text('a'));
    }

    private static void ofFilter() {
        Hall hall = new Hall();
        Checks.setFilter(hall, 0, "(a=1)");
        hall.reference(0, 0, 0, 0);
        hall.enable(0, true);
        Checks.noFilter(hall, Checks.ARGUMENT, 0, "(a=1");
        Checks.refused(hall, Checks.ARGUMENT, "no text, and in use", () -> hall.filter(0));
        Checks.noFilter(hall, Checks.STATE, 0, "(a=1)");
    }

    private static void ofRegister() {
        Hall hall = new Hall();
        Checks.register(hall, 50, 0);
        for (int i : Checks.outside(0, 5)) {
            Checks.refused(hall, Checks.ARGUMENT, "interface and number", () -> hall.register(i, 0));
        }
        Checks.refused(hall, Checks.INDEX, "number", () -> hall.register(0, 0));
    }

    private static void ofProperty() {
        Hall hall = new Hall();
        hall.register(0, 0);
        hall.register(0, 0);
        hall.withdraw(0);
        hall.describe(0, 0, 0, false, false);
        hall.enable(0, true);
        for (int k : Checks.outside(0, 5)) {
            Checks.refused(hall, Checks.ELEMENT, "no service, and k", () -> hall.property(3, k, 0, false));
            Checks.refused(hall, Checks.ELEMENT, "gone, and k", () -> hall.property(0, k, 0, false));
            Checks.refused(hall, Checks.ELEMENT, "a component's, and k", () -> hall.property(2, k, 0, true));
            Checks.refused(hall, Checks.ARGUMENT, "k", () -> hall.property(1, k, 0, true));
        }
    }

    private static void ofDescribe() {
        Hall hall = new Hall();
        hall.enable(0, true);
        for (int provides : Checks.outside(-1, 5)) {
            Checks.refused(hall, Checks.ARGUMENT, "interface and state",
                    () -> hall.describe(0, provides, 0, false, false));
        }
        Checks.refused(hall, Checks.STATE, "state", () -> hall.describe(0, 5, 0, false, false));
    }

    private static void ofReference() {
        Hall hall = new Hall();
        Checks.setFilter(hall, 0, "(a=1)");
        Checks.refused(hall, Checks.ARGUMENT, "component, filter", () -> hall.reference(8, 0, 0, 1));
        Checks.refused(hall, Checks.ARGUMENT, "interface, filter", () -> hall.reference(0, 6, 0, 1));
        Checks.refused(hall, Checks.ARGUMENT, "kind, filter", () -> hall.reference(0, 0, 16, 1));
        for (int n = 0; n < 3; n++) {
            hall.reference(0, 0, 0, 0);
        }
        Checks.refused(hall, Checks.ARGUMENT, "kind, room", () -> hall.reference(0, 0, 16, 0));
        Checks.refused(hall, Checks.ELEMENT, "filter, room", () -> hall.reference(0, 0, 0, 1));
        Checks.refused(hall, Checks.INDEX, "room", () -> hall.reference(0, 0, 0, 0));
        hall.enable(0, true);
        Checks.refused(hall, Checks.ARGUMENT, "interface, state, room", () -> hall.reference(0, -1, 0, -1));
        Checks.refused(hall, Checks.ARGUMENT, "filter's number, state, room", () -> hall.reference(0, 0, 0, 6));
        Checks.refused(hall, Checks.ELEMENT, "filter, state, room", () -> hall.reference(0, 0, 0, 1));
        Checks.refused(hall, Checks.STATE, "state, room", () -> hall.reference(0, 0, 0, 0));
        hall.enable(1, true);
        Checks.refused(hall, Checks.ARGUMENT, "kind, state", () -> hall.reference(1, 0, -1, -1));
        Checks.refused(hall, Checks.ELEMENT, "filter, state", () -> hall.reference(1, 0, 0, 1));
        Checks.refused(hall, Checks.STATE, "state", () -> hall.reference(1, 0, 0, 0));
    }

    /** The service that is gone comes from a component that is READY by another one, and can't be got. */
    private static void ofGet() {
        Hall hall = new Hall();
        Checks.neverGot(hall, 0, 0, 0);
        hall.enable(0, false);
        hall.enable(0, true);
        Checks.refused(hall, Checks.ELEMENT, "gone, and can't be got", () -> hall.get(0));
        Checks.due("nothing was tried", hall.look(0, 3), 0);
        Checks.thrown(Checks.STATE, "can't be got", () -> hall.get(1));
        Checks.due("that was tried", hall.look(0, 3), 1);
    }

    private static void ofBest() {
        Hall hall = new Hall();
        for (int wrong : Checks.outside(0, 5)) {
            Checks.refused(hall, Checks.ARGUMENT, "interface, no such filter", () -> hall.best(wrong, 0));
            Checks.refused(hall, Checks.ARGUMENT, "interface, no service", () -> hall.best(wrong, -1));
        }
        for (int wrong : Checks.outside(-1, 5)) {
            Checks.refused(hall, Checks.ARGUMENT, "filter's number, no service", () -> hall.best(0, wrong));
        }
        Checks.refused(hall, Checks.ELEMENT, "no service", () -> hall.best(0, -1));
    }

    /** "of value: no such SERVICE, then k, then no such PROPERTY" */
    private static void ofValue() {
        Hall hall = new Hall();
        hall.register(0, 0);
        for (int k : Checks.outside(0, 5)) {
            Checks.refused(hall, Checks.ELEMENT, "no such service, k", () -> hall.value(1, k));
            Checks.refused(hall, Checks.ARGUMENT, "k, no such property", () -> hall.value(0, k));
        }
        Checks.refused(hall, Checks.ELEMENT, "no such property", () -> hall.value(0, 5));
    }

    private static void ofBound() {
        Hall hall = new Hall();
        for (int c : Checks.outside(0, 7)) {
            Checks.refused(hall, Checks.ARGUMENT, "component, reference", () -> hall.bound(c, 3, 0));
            Checks.refused(hall, Checks.ARGUMENT, "component, place", () -> hall.bound(c, 0, -1));
        }
        Checks.refused(hall, Checks.INDEX, "reference, place", () -> hall.bound(0, 3, -1));
    }

    private static void ofService() {
        Hall hall = new Hall();
        for (int what : Checks.outside(0, 4)) {
            Checks.refused(hall, Checks.ELEMENT, "no service, what", () -> hall.service(0, what));
        }
        hall.register(0, 0);
        for (int what : Checks.outside(0, 4)) {
            Checks.refused(hall, Checks.ARGUMENT, "what", () -> hall.service(0, what));
            Checks.refused(hall, Checks.ELEMENT, "no such service, what", () -> hall.service(1, what));
        }
    }
}
