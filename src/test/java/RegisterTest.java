/** Promise 4. */
public final class RegisterTest {
    public static void main(String[] args) {
        ServiceHall hall = new ServiceHall();
        for (int i : new int[] {-1, 6, Integer.MIN_VALUE, Integer.MAX_VALUE}) {
            Checks.refused(hall, IllegalArgumentException.class, "interface " + i, () -> hall.register(i, 0));
        }
        Checks.due("the first", hall.register(0, Integer.MAX_VALUE), 0);
        Checks.due("the second", hall.register(5, Integer.MIN_VALUE), 1);
        Checks.due("it is there", hall.service(1, 0), 1);
        Checks.due("its interface", hall.service(1, 1), 5);
        Checks.due("its rank", hall.service(1, 2), Integer.MIN_VALUE);
        Checks.due("it comes from outside", hall.service(1, 3), -1);
        Checks.due("it has no uses", hall.service(1, 4), 0);
        Checks.due("it is noted", hall.count(2), 2);
        hall.withdraw(0);
        for (int s = 2; s < 50; s++) {
            Checks.due("a number is not used again", hall.register(s % 6, 0), s);
        }
        Checks.refused(hall, IndexOutOfBoundsException.class, "number 50", () -> hall.register(0, 0));
        wakesWhatWaits();
        Checks.end();
    }

    private static void wakesWhatWaits() {
        ServiceHall hall = new ServiceHall();
        Checks.component(hall, 1, 2, false, 1, 1);
        Checks.component(hall, 0, -1, false, 2, 1);
        hall.enable(0, true);
        hall.enable(1, true);
        Checks.due("of another interface", hall.register(0, 0), 0);
        Checks.due("nobody cares", hall.count(3), 0);
        Checks.due("its own number, though another comes behind it", hall.register(1, 0), 1);
        Checks.due("both are there, one by the other", hall.count(3), 2);
        Checks.due("the other's service", hall.bound(0, 0, 0), 2);
    }
}
