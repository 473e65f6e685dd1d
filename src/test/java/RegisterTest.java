/** Promise 4, and how many SERVICES there may be. */
public final class RegisterTest {
    public static void main(String[] args) {
        numbersFromZero();
        takesEachInterface();
        takesEachRank();
        makesAServiceFromOutside();
        has50Numbers();
        countsThoseThatAreGone();
        countsThoseOfComponents();
        isNoted();
        wakesWhatWaits();
        Checks.end();
    }

    private static void numbersFromZero() {
        Hall hall = new Hall();
        for (int s = 0; s < 6; s++) {
            Checks.due("its number", hall.register(5 - s, 10 - s), s);
        }
    }

    private static void takesEachInterface() {
        Hall hall = new Hall();
        for (int i = 0; i < 6; i++) {
            hall.register(i, 0);
            Checks.due("interface " + i, hall.service(i, 1), i);
        }
        for (int i : Checks.outside(0, 5)) {
            Checks.refused(hall, Checks.ARGUMENT, "interface " + i, () -> hall.register(i, 0));
        }
    }

    private static void takesEachRank() {
        Hall hall = new Hall();
        for (int rank : new int[] {0, 1, -1, Integer.MAX_VALUE, Integer.MIN_VALUE}) {
            Checks.due("its rank", hall.service(hall.register(0, rank), 2), rank);
        }
    }

    private static void makesAServiceFromOutside() {
        Hall hall = new Hall();
        hall.register(5, Integer.MIN_VALUE);
        Checks.dueText("there, its interface and rank, from outside, no uses", hall.told(0), "1 5 -2147483648 -1 0");
        for (int n = 0; n < 6; n++) {
            int k = n;
            Checks.refused(hall, Checks.ELEMENT, "without property " + k, () -> hall.value(0, k));
        }
    }

    /** "50 at most" */
    private static void has50Numbers() {
        Hall hall = new Hall();
        for (int s = 0; s < 50; s++) {
            Checks.due("its number", hall.register(s % 6, 0), s);
        }
        Checks.refused(hall, Checks.INDEX, "number 50", () -> hall.register(0, 0));
        Checks.dueText("all are there", hall.counts(), "50 50 50 0 0 0");
    }

    /** "also counting those that are gone" */
    private static void countsThoseThatAreGone() {
        Hall hall = new Hall();
        for (int s = 0; s < 50; s++) {
            Checks.due("a number is not used again", hall.register(0, 0), s);
            hall.withdraw(s);
        }
        Checks.refused(hall, Checks.INDEX, "number 50", () -> hall.register(0, 0));
        Checks.dueText("none is there", hall.counts(), "50 0 100 0 0 0");
    }

    private static void countsThoseOfComponents() {
        Hall hall = new Hall();
        Checks.register(hall, 48, 0);
        hall.describe(0, 1, 0, false, false);
        Checks.due("a component takes number 48", hall.enable(0, true), ServiceHall.ACTIVE);
        Checks.due("the last number", hall.register(0, 0), 49);
        Checks.refused(hall, Checks.INDEX, "number 50", () -> hall.register(0, 0));
    }

    private static void isNoted() {
        Hall hall = new Hall();
        hall.register(0, 0);
        Checks.due("one note", hall.count(2), 1);
        Checks.refused(hall, Checks.ARGUMENT, "interface 6", () -> hall.register(6, 0));
        Checks.due("none for what was refused", hall.count(2), 1);
    }

    private static void wakesWhatWaits() {
        Hall hall = new Hall();
        Checks.component(hall, 1, 2, false, 1, 1);
        Checks.component(hall, 0, -1, false, 2, 1);
        hall.enable(0, true);
        hall.enable(1, true);
        Checks.due("of another interface", hall.register(0, 0), 0);
        Checks.due("nobody cares", hall.count(3), 0);
        Checks.due("its own number, though another comes behind it", hall.register(1, 0), 1);
        Checks.due("both are there, one by the other", hall.count(3), 2);
        Checks.due("the other's service", hall.bound(0, 0, 0), 2);
    }
}
