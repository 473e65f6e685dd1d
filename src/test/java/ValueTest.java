import java.util.NoSuchElementException;

/** Promise 13. */
public final class ValueTest {
    public static void main(String[] args) {
        ServiceHall hall = new ServiceHall();
        Class<NoSuchElementException> none = NoSuchElementException.class;
        Checks.refused(hall, none, "no services", () -> hall.value(0, 0));
        Checks.refused(hall, none, "service -1", () -> hall.value(-1, 0));
        Checks.refused(hall, none, "service 50", () -> hall.value(50, 0));
        hall.register(0, 0);
        hall.register(0, 0);
        Checks.refused(hall, none, "a new one has none", () -> hall.value(0, 0));
        hall.property(0, 0, 1.25, false);
        hall.property(0, 5, -1e300, false);
        hall.property(1, 0, 7, false);
        Checks.due("a", hall.value(0, 0), 1.25);
        Checks.due("f", hall.value(0, 5), -1e300);
        Checks.due("of another service", hall.value(1, 0), 7);
        Checks.refused(hall, none, "one that is none", () -> hall.value(0, 3));
        for (int k : new int[] {-1, 6, Integer.MIN_VALUE, Integer.MAX_VALUE}) {
            Checks.refused(hall, IllegalArgumentException.class, "k " + k, () -> hall.value(0, k));
        }
        hall.withdraw(0);
        Checks.due("of one that is gone", hall.value(0, 0), 1.25);
        hall.describe(0, 0, 0, false, false);
        hall.enable(0, true);
        Checks.refused(hall, none, "a component's has none", () -> hall.value(2, 0));
        hall.property(1, 0, 0, true);
        Checks.refused(hall, none, "taken away", () -> hall.value(1, 0));
        Checks.end();
    }
}
