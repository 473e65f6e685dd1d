import java.util.NoSuchElementException;

/** Promise 12. */
public final class BestTest {
    public static void main(String[] args) {
        ServiceHall hall = new ServiceHall();
        Class<NoSuchElementException> none = NoSuchElementException.class;
        Checks.refused(hall, none, "no services", () -> hall.best(0, -1));
        hall.register(0, -5);
        Checks.due("the only one", hall.best(0, -1), 0);
        hall.register(0, Integer.MAX_VALUE);
        hall.register(0, Integer.MAX_VALUE);
        hall.register(1, 7);
        hall.register(0, Integer.MIN_VALUE);
        Checks.due("the greatest rank, the lowest number", hall.best(0, -1), 1);
        Checks.due("of another interface", hall.best(1, -1), 3);
        hall.withdraw(1);
        Checks.due("the next", hall.best(0, -1), 2);
        hall.withdraw(2);
        Checks.due("a rank below 0", hall.best(0, -1), 0);
        Checks.refused(hall, none, "no such filter", () -> hall.best(0, 2));
        Checks.setFilter(hall, 2, "(a=1)");
        Checks.refused(hall, none, "none for which it is true", () -> hall.best(0, 2));
        hall.property(4, 0, 1, false);
        Checks.due("one for which it is true", hall.best(0, 2), 4);
        hall.describe(0, 0, 99, true, false);
        hall.enable(0, true);
        Checks.due("from a component, READY", hall.best(0, -1), 5);
        Checks.due("which was not asked for", hall.look(0, 2), 0);
        for (int wrong : new int[] {-2, 6, Integer.MIN_VALUE, Integer.MAX_VALUE}) {
            Checks.refused(hall, IllegalArgumentException.class, "interface " + wrong, () -> hall.best(wrong, -1));
            Checks.refused(hall, IllegalArgumentException.class, "filter " + wrong, () -> hall.best(0, wrong));
        }
        Checks.refused(hall, IllegalArgumentException.class, "interface -1", () -> hall.best(-1, -1));
        Checks.end();
    }
}
