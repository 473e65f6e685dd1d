/** Promise 16. */
public final class ServiceTest {
    public static void main(String[] args) {
        tellsOfOneFromOutside();
        tellsOfOneFromAComponent();
        tellsOfOneThatIsGone();
        refusesNumbersThatNeverWere();
        refusesOthers();
        Checks.end();
    }

    private static void tellsOfOneFromOutside() {
        Hall hall = new Hall();
        hall.register(3, -8);
        Checks.dueText("new", hall.told(0), "1 3 -8 -1 0");
        hall.get(0);
        hall.get(0);
        Checks.dueText("got twice", hall.told(0), "1 3 -8 -1 2");
    }

    private static void tellsOfOneFromAComponent() {
        Hall hall = new Hall();
        hall.register(3, -8);
        for (int c = 0; c < 8; c++) {
            hall.describe(c, 5 - c % 6, 12 + c, c % 2 == 0, false);
            hall.enable(c, true);
            Checks.dueText("from component " + c, hall.told(c + 1),
                    "1 " + (5 - c % 6) + " " + (12 + c) + " " + c + " 0");
        }
    }

    private static void tellsOfOneThatIsGone() {
        Hall hall = new Hall();
        hall.register(3, -8);
        Checks.component(hall, 7, 5, false, 3, 1);
        hall.enable(7, true);
        hall.get(1);
        hall.withdraw(0);
        Checks.dueText("from outside", hall.told(0), "0 3 -8 -1 0");
        Checks.dueText("from a component, and in use", hall.told(1), "0 5 0 7 1");
        hall.unget(1);
        Checks.dueText("given back", hall.told(1), "0 5 0 7 0");
    }

    private static void refusesNumbersThatNeverWere() {
        Hall hall = new Hall();
        Checks.refused(hall, Checks.ELEMENT, "service 0 of none", () -> hall.service(0, 0));
        hall.register(0, 0);
        for (int s : Checks.outside(0, 0)) {
            for (int what = 0; what <= 4; what++) {
                int told = what;
                Checks.refused(hall, Checks.ELEMENT, "service " + s, () -> hall.service(s, told));
            }
        }
        Checks.register(hall, 49, 0);
        Checks.refused(hall, Checks.ELEMENT, "service 50 of 50", () -> hall.service(50, 0));
        Checks.due("the last", hall.service(49, 0), 1);
    }

    private static void refusesOthers() {
        Hall hall = new Hall();
        hall.register(0, 0);
        for (int what : Checks.outside(0, 4)) {
            Checks.refused(hall, Checks.ARGUMENT, "what " + what, () -> hall.service(0, what));
        }
    }
}
