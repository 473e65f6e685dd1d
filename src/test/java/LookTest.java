/** Promise 15. */
public final class LookTest {
    public static void main(String[] args) {
        ServiceHall hall = new ServiceHall();
        hall.describe(2, 4, 0, true, false);
        hall.reference(2, 0, 1 + 2, -1);
        hall.reference(2, 1, 0, -1);
        hall.reference(2, 2, 2 + 4, -1);
        shows(hall, "OFF", "0 -1 0 0 0 3 0 0 0");
        hall.enable(2, true);
        shows(hall, "WAITING", "1 -1 0 0 0 3 0 0 0");
        hall.register(0, 0);
        shows(hall, "READY", "2 1 0 0 0 3 0 0 0");
        hall.register(0, 0);
        hall.register(2, 0);
        hall.get(1);
        shows(hall, "ACTIVE", "3 1 1 0 0 3 2 0 1");
        hall.unget(1);
        shows(hall, "READY again", "2 1 1 0 1 3 0 0 0");
        hall.get(1);
        hall.withdraw(0);
        shows(hall, "made anew, with another service", "2 4 2 0 2 3 0 0 0");
        hall.enable(2, false);
        shows(hall, "OFF again", "0 -1 2 0 2 3 0 0 0");
        hall.describe(2, -1, 0, false, true);
        shows(hall, "described anew", "0 -1 2 0 2 0 0 0 0");
        hall.enable(2, true);
        shows(hall, "BROKEN", "4 -1 2 1 2 0 0 0 0");
        refusals(hall);
        Checks.end();
    }

    private static void shows(ServiceHall hall, String when, String due) {
        StringBuilder seen = new StringBuilder();
        for (int what = 0; what <= 8; what++) {
            seen.append(what == 0 ? "" : " ").append(hall.look(2, what));
        }
        Checks.dueText(when, seen.toString(), due);
    }

    private static void refusals(ServiceHall hall) {
        for (int wrong : new int[] {-1, 9, Integer.MIN_VALUE, Integer.MAX_VALUE}) {
            Checks.refused(hall, IllegalArgumentException.class, "what " + wrong, () -> hall.look(2, wrong));
            Checks.refused(hall, IllegalArgumentException.class, "component " + wrong, () -> hall.look(wrong, 0));
        }
        Checks.refused(hall, IllegalArgumentException.class, "component 8", () -> hall.look(8, 0));
    }
}
