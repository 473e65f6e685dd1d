/** Promise 14. */
public final class BoundTest {
    public static void main(String[] args) {
        ServiceHall hall = new ServiceHall();
        Class<IndexOutOfBoundsException> none = IndexOutOfBoundsException.class;
        hall.register(0, 0);
        hall.register(1, 1);
        hall.register(1, 2);
        hall.register(1, 0);
        hall.reference(3, 0, 0, -1);
        hall.reference(3, 1, 2, -1);
        Checks.refused(hall, none, "OFF", () -> hall.bound(3, 0, 0));
        hall.enable(3, true);
        Checks.due("at most one", hall.bound(3, 0, 0), 0);
        Checks.due("the best first", hall.bound(3, 1, 0), 2);
        Checks.due("the second", hall.bound(3, 1, 1), 1);
        Checks.due("the third", hall.bound(3, 1, 2), 3);
        Checks.refused(hall, none, "a second where there is one", () -> hall.bound(3, 0, 1));
        Checks.refused(hall, none, "a fourth where there are three", () -> hall.bound(3, 1, 3));
        Checks.refused(hall, none, "no such reference", () -> hall.bound(3, 2, 0));
        Checks.refused(hall, none, "no references", () -> hall.bound(4, 0, 0));
        for (int wrong : new int[] {-1, 50, Integer.MIN_VALUE, Integer.MAX_VALUE}) {
            Checks.refused(hall, none, "reference " + wrong, () -> hall.bound(3, wrong, 0));
            Checks.refused(hall, none, "place " + wrong, () -> hall.bound(3, 1, wrong));
            Checks.refused(hall, IllegalArgumentException.class, "component " + wrong, () -> hall.bound(wrong, 0, 0));
        }
        Checks.refused(hall, IllegalArgumentException.class, "component 8", () -> hall.bound(8, 0, 0));
        hall.enable(3, false);
        Checks.refused(hall, none, "given back", () -> hall.bound(3, 1, 0));
        Checks.end();
    }
}
