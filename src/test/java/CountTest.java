/** Promise 17. */
public final class CountTest {
    public static void main(String[] args) {
        ServiceHall hall = new ServiceHall();
        counts(hall, "a new one", "0 0 0 0 0 0");
        Checks.write(hall, "(a=1)(b=2)");
        counts(hall, "letters", "0 0 0 0 0 10");
        hall.describe(0, 1, 0, false, false);
        hall.reference(0, 0, 1 + 2, -1);
        hall.reference(0, 0, 4 + 8, -1);
        hall.enable(0, true);
        counts(hall, "WAITING", "0 0 0 0 0 10");
        hall.register(0, 0);
        counts(hall, "ACTIVE, with a service of its own", "2 2 2 1 2 10");
        hall.register(0, 1);
        counts(hall, "a better one is bound instead", "3 3 3 1 3 10");
        hall.property(0, 0, 1, false);
        counts(hall, "a note that changes nothing", "3 3 4 1 3 10");
        hall.withdraw(0);
        counts(hall, "made anew: one gone, its own gone, its own come", "4 2 7 1 5 10");
        hall.enable(0, false);
        counts(hall, "OFF", "4 1 8 0 5 10");
        hall.get(2);
        counts(hall, "a get is no binding", "4 1 8 0 5 10");
        Checks.thrown(IllegalArgumentException.class, "two filters are none", () -> hall.filter(0));
        counts(hall, "the text is empty", "4 1 8 0 5 0");
        for (int wrong : new int[] {-1, 6, Integer.MIN_VALUE, Integer.MAX_VALUE}) {
            Checks.refused(hall, IllegalArgumentException.class, "what " + wrong, () -> hall.count(wrong));
        }
        Checks.end();
    }

    private static void counts(ServiceHall hall, String when, String due) {
        StringBuilder counted = new StringBuilder();
        for (int what = 0; what <= 5; what++) {
            counted.append(what == 0 ? "" : " ").append(hall.count(what));
        }
        Checks.dueText(when, counted.toString(), due);
    }
}
