import java.util.NoSuchElementException;

/** Promise 16. */
public final class ServiceTest {
    public static void main(String[] args) {
        ServiceHall hall = new ServiceHall();
        Checks.refused(hall, NoSuchElementException.class, "no services", () -> hall.service(0, 0));
        hall.register(3, -8);
        tells(hall, 0, "1 3 -8 -1 0");
        hall.describe(7, 5, 12, false, false);
        hall.reference(7, 3, 1, -1);
        hall.enable(7, true);
        tells(hall, 0, "1 3 -8 -1 1");
        tells(hall, 1, "1 5 12 7 0");
        hall.get(1);
        hall.withdraw(0);
        tells(hall, 0, "0 3 -8 -1 0");
        tells(hall, 1, "0 5 12 7 1");
        hall.unget(1);
        tells(hall, 1, "0 5 12 7 0");
        for (int wrong : new int[] {-1, 5, Integer.MIN_VALUE, Integer.MAX_VALUE}) {
            Checks.refused(hall, IllegalArgumentException.class, "what " + wrong, () -> hall.service(0, wrong));
            Checks.refused(hall, NoSuchElementException.class, "service " + wrong, () -> hall.service(wrong, 0));
        }
        Checks.refused(hall, NoSuchElementException.class, "service 2", () -> hall.service(2, 0));
        Checks.end();
    }

    private static void tells(ServiceHall hall, int s, String due) {
        StringBuilder told = new StringBuilder();
        for (int what = 0; what <= 4; what++) {
            told.append(what == 0 ? "" : " ").append(hall.service(s, what));
        }
        Checks.dueText("service " + s, told.toString(), due);
    }
}
