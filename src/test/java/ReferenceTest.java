/** Promise 8, and what each kind of REFERENCE does when services come and go. */
public final class ReferenceTest {
    /**
     * By kind: how often the component has become ACTIVE, and its row, behind enable, the registering of ranks 1, 2
     * and 0 (services 0, 1, 2), and the withdrawing of 0, 1 and 2.
     */
    private static final String[][] KINDS = {
        {"1:", "1:", "1:", "1:", "1:", "1:", "1:"},
        {"0:", "1:0", "1:0", "1:0", "2:1", "3:2", "3:"},
        {"1:", "1:", "1:", "1:", "1:", "1:", "1:"},
        {"0:", "1:0", "1:0", "1:0", "2:1 2", "3:2", "3:"},
        {"1:", "1:0", "1:0", "1:0", "1:1", "1:2", "1:"},
        {"0:", "1:0", "1:0", "1:0", "1:1", "1:2", "1:"},
        {"1:", "1:0", "1:0 1", "1:0 1 2", "1:1 2", "1:2", "1:"},
        {"0:", "1:0", "1:0 1", "1:0 1 2", "1:1 2", "1:2", "1:"},
        {"1:", "2:0", "3:1", "3:1", "3:1", "4:2", "5:"},
        {"0:", "1:0", "2:1", "2:1", "2:1", "3:2", "3:"},
        {"1:", "2:0", "3:1 0", "4:1 0 2", "5:1 2", "6:2", "7:"},
        {"0:", "1:0", "2:1 0", "3:1 0 2", "4:1 2", "5:2", "5:"},
        {"1:", "1:0", "1:1", "1:1", "1:1", "1:2", "1:"},
        {"0:", "1:0", "1:1", "1:1", "1:1", "1:2", "1:"},
        {"1:", "1:0", "1:0 1", "1:0 1 2", "1:1 2", "1:2", "1:"},
        {"0:", "1:0", "1:0 1", "1:0 1 2", "1:1 2", "1:2", "1:"}};

    public static void main(String[] args) {
        for (int kind = 0; kind < 16; kind++) {
            comesAndGoes(kind);
        }
        answersHowManyItHas();
        hasRoomForThree();
        refusesOtherComponents();
        takesEachInterface();
        refusesOtherKinds();
        takesEachFilterOrNone();
        refusesAFilterThatIsNone();
        refusesOneThatIsNotOff();
        Checks.end();
    }

    private static void comesAndGoes(int kind) {
        Hall hall = new Hall();
        String[] due = KINDS[kind];
        Checks.component(hall, 0, -1, false, 0, kind);
        hall.enable(0, true);
        step(hall, kind, 0, due);
        for (int n = 0; n < 3; n++) {
            hall.register(0, (n + 1) % 3);
            step(hall, kind, 1 + n, due);
        }
        for (int n = 0; n < 3; n++) {
            Checks.due("kind " + kind + " has given back", hall.withdraw(n), 0);
            step(hall, kind, 4 + n, due);
        }
        boolean needsOne = (kind & 1) != 0;
        Checks.due("kind " + kind + " stands in the end", hall.look(0, 0),
                needsOne ? ServiceHall.WAITING : ServiceHall.ACTIVE);
        Checks.due("kind " + kind + " was made INACTIVE", hall.look(0, 4), hall.look(0, 2) - (needsOne ? 0 : 1));
    }

    private static void step(Hall hall, int kind, int step, String[] due) {
        String got = hall.look(0, 2) + ":" + hall.row(0, 0);
        Checks.dueText("kind " + kind + " behind step " + step, got, due[step]);
    }

    private static void answersHowManyItHas() {
        Hall hall = new Hall();
        for (int c = 0; c < 8; c++) {
            for (int n = 1; n <= 3; n++) {
                Checks.due("component " + c, hall.reference(c, 0, 0, -1), n);
                Checks.due("look says the same", hall.look(c, 5), n);
            }
        }
    }

    /** "IndexOutOfBoundsException: it has 3" */
    private static void hasRoomForThree() {
        Hall hall = new Hall();
        hall.reference(0, 0, 1, -1);
        hall.reference(0, 1, 1, -1);
        Checks.due("the third", hall.reference(0, 2, 1, -1), 3);
        Checks.refused(hall, Checks.INDEX, "a fourth", () -> hall.reference(0, 3, 1, -1));
        hall.describe(0, -1, 0, false, false);
        Checks.due("described anew", hall.reference(0, 3, 1, -1), 1);
    }

    private static void refusesOtherComponents() {
        Hall hall = new Hall();
        for (int c : Checks.outside(0, 7)) {
            Checks.refused(hall, Checks.ARGUMENT, "component " + c, () -> hall.reference(c, 0, 0, -1));
        }
    }

    private static void takesEachInterface() {
        Hall hall = new Hall();
        for (int i = 0; i < 6; i++) {
            hall.reference(i, i, 1, -1);
            hall.enable(i, true);
        }
        for (int i = 0; i < 6; i++) {
            hall.register(i, 0);
            Checks.dueText("the one that waits for interface " + i, hall.row(i, 0), String.valueOf(i));
            Checks.due("and no other", hall.count(3), i + 1);
        }
        for (int i : Checks.outside(0, 5)) {
            Checks.refused(hall, Checks.ARGUMENT, "interface " + i, () -> hall.reference(7, i, 0, -1));
        }
    }

    /** "kind not 0..15": what the sixteen do stands above. */
    private static void refusesOtherKinds() {
        Hall hall = new Hall();
        for (int kind : Checks.outside(0, 15)) {
            Checks.refused(hall, Checks.ARGUMENT, "kind " + kind, () -> hall.reference(0, 0, kind, -1));
        }
        Checks.due("the first kind", hall.reference(0, 0, 0, -1), 1);
        Checks.due("the last kind", hall.reference(0, 0, 15, -1), 2);
    }

    private static void takesEachFilterOrNone() {
        Hall hall = new Hall();
        for (int f = 0; f < 6; f++) {
            Checks.setFilter(hall, f, "(a=" + f + ")");
            hall.reference(f, 0, 1, f);
            hall.enable(f, true);
        }
        hall.reference(7, 0, 1, -1);
        hall.enable(7, true);
        hall.register(0, 0);
        Checks.due("without a filter", hall.look(7, 0), ServiceHall.ACTIVE);
        for (int f = 0; f < 6; f++) {
            hall.property(0, 0, f, false);
            Checks.due("by filter " + f, hall.look(f, 0), ServiceHall.ACTIVE);
            Checks.due("and no other", hall.count(3), 2);
        }
        for (int f : Checks.outside(-1, 5)) {
            Checks.refused(hall, Checks.ARGUMENT, "filter " + f, () -> hall.reference(6, 0, 0, f));
        }
    }

    private static void refusesAFilterThatIsNone() {
        for (int written = 0; written < 6; written++) {
            Hall hall = new Hall();
            Checks.setFilter(hall, written, "(a=1)");
            for (int n = 0; n < 6; n++) {
                int f = n;
                if (f != written) {
                    Checks.refused(hall, Checks.ELEMENT, "filter " + f, () -> hall.reference(0, 0, 0, f));
                }
            }
            Checks.due("the one that is written", hall.reference(0, 0, 0, written), 1);
        }
    }

    private static void refusesOneThatIsNotOff() {
        Hall hall = new Hall();
        Checks.component(hall, 1, 1, false, 0, 1);
        hall.describe(2, 2, 0, true, false);
        hall.describe(3, 3, 0, false, false);
        hall.describe(4, 4, 0, false, true);
        for (int n = ServiceHall.WAITING; n <= ServiceHall.BROKEN; n++) {
            int c = n;
            Checks.due("component " + c + " stands so", hall.enable(c, true), c);
            Checks.refused(hall, Checks.STATE, "component " + c, () -> hall.reference(c, 0, 0, -1));
        }
        for (int c = ServiceHall.WAITING; c <= ServiceHall.BROKEN; c++) {
            hall.enable(c, false);
            Checks.due("OFF again", hall.reference(c, 0, 0, -1), c == ServiceHall.WAITING ? 2 : 1);
        }
    }
}
