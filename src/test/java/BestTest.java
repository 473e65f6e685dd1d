/** Promise 12. */
public final class BestTest {
    public static void main(String[] args) {
        refusesWhereThereIsNone();
        takesTheGreatestRank();
        takesTheLowestNumberOfThat();
        leavesOutWhatIsGone();
        looksAtTheInterface();
        looksAtTheFilter();
        refusesAFilterThatIsNone();
        refusesOtherInterfacesAndFilters();
        leavesADelayedOneAlone();
        looksAtAllFifty();
        Checks.end();
    }

    private static void refusesWhereThereIsNone() {
        Hall hall = new Hall();
        Checks.refused(hall, Checks.ELEMENT, "no services", () -> hall.best(0, -1));
        hall.register(0, Integer.MIN_VALUE);
        Checks.due("the only one", hall.best(0, -1), 0);
        hall.withdraw(0);
        Checks.refused(hall, Checks.ELEMENT, "the only one is gone", () -> hall.best(0, -1));
    }

    private static void takesTheGreatestRank() {
        Hall hall = new Hall();
        hall.register(0, Integer.MIN_VALUE);
        hall.register(0, -5);
        Checks.due("below 0", hall.best(0, -1), 1);
        hall.register(0, 0);
        Checks.due("0", hall.best(0, -1), 2);
        hall.register(0, Integer.MAX_VALUE);
        Checks.due("the greatest there is", hall.best(0, -1), 3);
        hall.register(0, Integer.MAX_VALUE - 1);
        Checks.due("one less", hall.best(0, -1), 3);
    }

    private static void takesTheLowestNumberOfThat() {
        Hall hall = new Hall();
        hall.register(0, 6);
        hall.register(0, 7);
        hall.register(0, 7);
        Checks.due("the lower of two", hall.best(0, -1), 1);
    }

    private static void leavesOutWhatIsGone() {
        Hall hall = new Hall();
        hall.register(0, 6);
        hall.register(0, 7);
        hall.register(0, 7);
        hall.get(1);
        hall.withdraw(1);
        Checks.due("the next", hall.best(0, -1), 2);
        hall.withdraw(2);
        Checks.due("the last", hall.best(0, -1), 0);
    }

    private static void looksAtTheInterface() {
        Hall hall = new Hall();
        for (int i = 0; i < 6; i++) {
            hall.register(i, i);
        }
        for (int i = 0; i < 6; i++) {
            Checks.due("of interface " + i, hall.best(i, -1), i);
        }
    }

    private static void looksAtTheFilter() {
        Hall hall = new Hall();
        for (int f = 0; f < 6; f++) {
            Checks.setFilter(hall, f, "(a<=" + f + ")");
            hall.property(hall.register(0, f), 0, f, false);
        }
        for (int f = 0; f < 6; f++) {
            Checks.due("by filter " + f, hall.best(0, f), f);
        }
        Checks.due("by none", hall.best(0, -1), 5);
        hall.property(0, 0, 0.5, false);
        Checks.refused(hall, Checks.ELEMENT, "none for which it is true", () -> hall.best(0, 0));
        Checks.refused(hall, Checks.ELEMENT, "none of that interface", () -> hall.best(1, 5));
    }

    private static void refusesAFilterThatIsNone() {
        Hall hall = new Hall();
        hall.register(0, 0);
        for (int n = 0; n < 6; n++) {
            int f = n;
            Checks.refused(hall, Checks.ELEMENT, "filter " + f, () -> hall.best(0, f));
        }
    }

    private static void refusesOtherInterfacesAndFilters() {
        Hall hall = new Hall();
        hall.register(0, 0);
        for (int i : Checks.outside(0, 5)) {
            Checks.refused(hall, Checks.ARGUMENT, "interface " + i, () -> hall.best(i, -1));
        }
        for (int f : Checks.outside(-1, 5)) {
            Checks.refused(hall, Checks.ARGUMENT, "filter " + f, () -> hall.best(0, f));
        }
    }

    private static void leavesADelayedOneAlone() {
        Hall hall = new Hall();
        hall.register(0, 0);
        hall.describe(0, 0, 99, true, false);
        hall.enable(0, true);
        Checks.due("from a component, READY", hall.best(0, -1), 1);
        Checks.dueText("which was not asked for", hall.looks(0), "2 1 0 0 0 0 0 0 0");
        Checks.neverGot(hall, 1, 0, 100);
        Checks.due("even one that can't be got", hall.best(0, -1), 2);
    }

    private static void looksAtAllFifty() {
        Hall hall = new Hall();
        for (int s = 0; s < 50; s++) {
            hall.register(0, s);
        }
        for (int s = 49; s >= 0; s--) {
            Checks.due("the last", hall.best(0, -1), s);
            hall.withdraw(s);
        }
        Checks.refused(hall, Checks.ELEMENT, "none of fifty", () -> hall.best(0, -1));
    }
}
