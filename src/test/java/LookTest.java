/** Promise 15. */
public final class LookTest {
    public static void main(String[] args) {
        tellsAllThroughALife();
        tellsOfEachOfEight();
        tellsBoundOnesByReference();
        tellsNoneWhereThereIsNoReference();
        refusesOtherComponents();
        refusesOthers();
        Checks.end();
    }

    private static void tellsAllThroughALife() {
        Hall hall = new Hall();
        hall.describe(2, 4, 0, true, false);
        hall.reference(2, 0, 1 + 2, -1);
        hall.reference(2, 1, 0, -1);
        hall.reference(2, 2, 2 + 4, -1);
        Checks.dueText("OFF", hall.looks(2), "0 -1 0 0 0 3 0 0 0");
        hall.enable(2, true);
        Checks.dueText("WAITING", hall.looks(2), "1 -1 0 0 0 3 0 0 0");
        hall.register(0, 0);
        Checks.dueText("READY", hall.looks(2), "2 1 0 0 0 3 0 0 0");
        hall.register(0, 0);
        hall.register(2, 0);
        hall.get(1);
        Checks.dueText("ACTIVE", hall.looks(2), "3 1 1 0 0 3 2 0 1");
        hall.unget(1);
        Checks.dueText("READY again", hall.looks(2), "2 1 1 0 1 3 0 0 0");
        hall.get(1);
        hall.withdraw(0);
        Checks.dueText("made anew, with another service", hall.looks(2), "2 4 2 0 2 3 0 0 0");
        hall.enable(2, false);
        Checks.dueText("OFF again", hall.looks(2), "0 -1 2 0 2 3 0 0 0");
        hall.describe(2, -1, 0, false, true);
        Checks.dueText("described anew", hall.looks(2), "0 -1 2 0 2 0 0 0 0");
        hall.enable(2, true);
        Checks.dueText("BROKEN", hall.looks(2), "4 -1 2 1 2 0 0 0 0");
    }

    private static void tellsOfEachOfEight() {
        Hall hall = new Hall();
        for (int c = 0; c < 8; c++) {
            for (int n = 0; n < c; n++) {
                hall.enable(c, true);
                hall.enable(c, false);
            }
        }
        for (int c = 0; c < 8; c++) {
            Checks.dueText("component " + c, hall.looks(c), "0 -1 " + c + " 0 " + c + " 0 0 0 0");
        }
    }

    private static void tellsBoundOnesByReference() {
        Hall hall = new Hall();
        for (int r = 0; r < 3; r++) {
            hall.reference(0, r, 2, -1);
            Checks.register(hall, 3 * r + 1, r);
        }
        hall.enable(0, true);
        Checks.dueText("1, 4 and 7", hall.looks(0), "3 -1 1 0 0 3 1 4 7");
    }

    /** "(0 if there is none)" */
    private static void tellsNoneWhereThereIsNoReference() {
        Hall hall = new Hall();
        hall.register(0, 0);
        hall.reference(0, 0, 0, -1);
        hall.enable(0, true);
        Checks.dueText("one of three", hall.looks(0), "3 -1 1 0 0 1 1 0 0");
        hall.enable(0, false);
        hall.reference(0, 0, 2, -1);
        hall.enable(0, true);
        Checks.dueText("two of three", hall.looks(0), "3 -1 2 0 1 2 1 1 0");
    }

    private static void refusesOtherComponents() {
        Hall hall = new Hall();
        for (int c : Checks.outside(0, 7)) {
            for (int what = 0; what <= 8; what += 4) {
                int seen = what;
                Checks.refused(hall, Checks.ARGUMENT, "component " + c, () -> hall.look(c, seen));
            }
        }
    }

    private static void refusesOthers() {
        Hall hall = new Hall();
        for (int what : Checks.outside(0, 8)) {
            Checks.refused(hall, Checks.ARGUMENT, "what " + what, () -> hall.look(0, what));
        }
    }
}
