/** Promise 1: what a new object is. What calls that throw do stands in FirstExceptionTest and RefusedCallTest. */
public final class NewObjectTest {
    public static void main(String[] args) {
        hasNoServices();
        hasNoFilters();
        hasComponentsThatAreOff();
        hasComponentsThatProvideNothing();
        isApartFromOthers();
        bears512Calls();
        Checks.end();
    }

    private static void hasNoServices() {
        Hall hall = new Hall();
        Checks.dueText("counts", hall.counts(), "0 0 0 0 0 0");
        Checks.refused(hall, Checks.ELEMENT, "service 0", () -> hall.service(0, 0));
        for (int n = 0; n < 6; n++) {
            int i = n;
            Checks.refused(hall, Checks.ELEMENT, "best " + i, () -> hall.best(i, -1));
        }
        Checks.due("the first number", hall.register(0, 0), 0);
    }

    private static void hasNoFilters() {
        Hall hall = new Hall();
        hall.register(0, 0);
        for (int n = 0; n < 6; n++) {
            int f = n;
            Checks.refused(hall, Checks.ELEMENT, "reference by " + f, () -> hall.reference(0, 0, 0, f));
            Checks.refused(hall, Checks.ELEMENT, "best by " + f, () -> hall.best(0, f));
        }
    }

    private static void hasComponentsThatAreOff() {
        Hall hall = new Hall();
        for (int c = 0; c < 8; c++) {
            Checks.dueText("component " + c, hall.looks(c), "0 -1 0 0 0 0 0 0 0");
        }
    }

    private static void hasComponentsThatProvideNothing() {
        Hall hall = new Hall();
        for (int c = 0; c < 8; c++) {
            Checks.due("component " + c + " waits for nothing", hall.enable(c, true), ServiceHall.ACTIVE);
            Checks.dueText("component " + c, hall.looks(c), "3 -1 1 0 0 0 0 0 0");
        }
        Checks.dueText("no services come of that, nor notes", hall.counts(), "0 0 0 8 0 0");
    }

    private static void isApartFromOthers() {
        Hall one = new Hall();
        Hall other = new Hall();
        String before = other.shown();
        Checks.setFilter(one, 0, "(a=1)");
        Checks.write(one, "(b");
        one.property(one.register(0, 0), 0, 1, false);
        one.describe(0, 1, 0, false, false);
        one.reference(0, 0, 1, 0);
        one.enable(0, true);
        Checks.sameAs(before, "another object", other.shown());
        Checks.due("another object's text", other.count(5), 0);
        Checks.due("another object's services", other.count(0), 0);
        Checks.due("another object's component", other.look(0, 0), ServiceHall.OFF);
    }

    /** "An object is used for at most 512 calls": the last of them is as good as the first. */
    private static void bears512Calls() {
        Hall hall = new Hall();
        hall.describe(0, 0, 0, true, false);
        hall.enable(0, true);
        for (int use = 1; use <= 254; use++) {
            Checks.due("a use more", hall.get(0), use);
        }
        for (int use = 253; use >= 0; use--) {
            Checks.due("a use less", hall.unget(0), use);
        }
        Checks.due("call 511", hall.get(0), 1);
        Checks.due("call 512", hall.look(0, 2), 2);
    }
}
