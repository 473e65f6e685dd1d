/** Terms: which SERVICES are TARGETS of a REFERENCE, which is BETTER, and how long a row may be. */
public final class TargetsTest {
    public static void main(String[] args) {
        areThere();
        haveTheInterface();
        passTheFilter();
        doNotComeFromTheComponentItself();
        comeFromOtherComponents();
        betterIsTheGreaterRank();
        betterIsTheLowerNumberOfTheSameRank();
        ranksDoNotWrapAround();
        aRowMayHoldAllFifty();
        aRowMayBeEmpty();
        Checks.end();
    }

    private static void areThere() {
        Hall hall = new Hall();
        hall.withdraw(hall.register(0, 9));
        hall.reference(0, 0, 1, -1);
        Checks.due("one that is gone is none", hall.enable(0, true), ServiceHall.WAITING);
        hall.register(0, 0);
        Checks.dueText("one that is there is", hall.row(0, 0), "1");
    }

    private static void haveTheInterface() {
        Hall hall = new Hall();
        hall.reference(0, 3, 1, -1);
        hall.enable(0, true);
        for (int i : new int[] {0, 1, 2, 4, 5}) {
            hall.register(i, 0);
            Checks.due("of another interface", hall.look(0, 0), ServiceHall.WAITING);
        }
        hall.register(3, 0);
        Checks.dueText("of its own", hall.row(0, 0), "5");
    }

    private static void passTheFilter() {
        Hall hall = new Hall();
        Checks.setFilter(hall, 0, "(a>=2)");
        hall.reference(0, 0, 1 + 2, 0);
        for (int a = 1; a <= 3; a++) {
            hall.property(hall.register(0, 0), 0, a, false);
        }
        hall.register(0, 0);
        hall.enable(0, true);
        Checks.dueText("by the filter", hall.row(0, 0), "1 2");
    }

    private static void doNotComeFromTheComponentItself() {
        Hall hall = new Hall();
        Checks.component(hall, 0, 0, false, 0, 2 + 4);
        hall.enable(0, true);
        Checks.dueText("its own service is none", hall.row(0, 0), "");
        hall.register(0, 0);
        Checks.dueText("another one is", hall.row(0, 0), "1");
        Checks.component(hall, 1, 1, false, 1, 1);
        Checks.due("it would have to be there first", hall.enable(1, true), ServiceHall.WAITING);
        Checks.component(hall, 2, 2, true, 2, 1);
        Checks.due("a delayed one too", hall.enable(2, true), ServiceHall.WAITING);
        Checks.component(hall, 3, 3, true, 3, 0);
        hall.enable(3, true);
        Checks.due("asked for", hall.get(hall.look(3, 1)), 1);
        Checks.dueText("it has not got itself", hall.row(3, 0), "");
    }

    private static void comeFromOtherComponents() {
        Hall hall = new Hall();
        Checks.component(hall, 0, 0, false, 0, 2 + 4);
        hall.enable(0, true);
        Checks.component(hall, 1, 0, true, 0, 1);
        Checks.due("asked for at once", hall.enable(1, true), ServiceHall.ACTIVE);
        Checks.dueText("the first one has the other's", hall.row(0, 0), "1");
        Checks.dueText("and the other one the first one's", hall.row(1, 0), "0");
    }

    private static void betterIsTheGreaterRank() {
        Hall hall = new Hall();
        for (int rank : new int[] {-1, 2, 0, 1, -2}) {
            hall.register(0, rank);
        }
        hall.reference(0, 0, 2, -1);
        hall.reference(0, 0, 0, -1);
        hall.enable(0, true);
        Checks.dueText("by rank", hall.row(0, 0), "1 3 2 0 4");
        Checks.dueText("the best", hall.row(0, 1), "1");
    }

    private static void betterIsTheLowerNumberOfTheSameRank() {
        Hall hall = new Hall();
        Checks.component(hall, 0, -1, false, 0, 4 + 8);
        hall.register(0, 5);
        hall.enable(0, true);
        hall.register(0, 5);
        Checks.dueText("a higher number is not better", hall.row(0, 0), "0");
        hall.register(0, 6);
        Checks.dueText("a greater rank is", hall.row(0, 0), "2");
        hall.withdraw(2);
        Checks.dueText("the lowest number", hall.row(0, 0), "0");
        hall.withdraw(0);
        Checks.dueText("the next", hall.row(0, 0), "1");
    }

    /** The ranks' difference does not fit into an int. */
    private static void ranksDoNotWrapAround() {
        Hall hall = new Hall();
        Checks.component(hall, 0, -1, false, 0, 4 + 8);
        Checks.component(hall, 1, -1, false, 0, 2 + 8);
        hall.register(0, Integer.MIN_VALUE);
        hall.enable(0, true);
        hall.enable(1, true);
        hall.register(0, Integer.MAX_VALUE);
        Checks.dueText("the greatest is better than the least", hall.row(0, 0), "1");
        hall.register(0, Integer.MIN_VALUE);
        hall.register(0, -2_000_000_000);
        Checks.dueText("the least is not better than the greatest", hall.row(0, 0), "1");
        hall.register(0, 2_000_000_000);
        Checks.dueText("in order", hall.row(1, 0), "1 4 3 0 2");
        Checks.due("best says the same", hall.best(0, -1), 1);
    }

    private static void aRowMayHoldAllFifty() {
        Hall hall = new Hall();
        Checks.component(hall, 0, -1, false, 0, 1 + 2 + 4);
        hall.enable(0, true);
        Checks.register(hall, 50, 0);
        Checks.due("all are bound", hall.look(0, 6), 50);
        Checks.due("the last", hall.bound(0, 0, 49), 49);
        Checks.refused(hall, Checks.INDEX, "there is no more", () -> hall.bound(0, 0, 50));
        Checks.due("the first goes", hall.withdraw(0), 0);
        Checks.due("the others move up", hall.bound(0, 0, 0), 1);
        Checks.due("to the last", hall.bound(0, 0, 48), 49);
        Checks.due("in the middle", hall.withdraw(25), 0);
        Checks.due("those before it stay", hall.bound(0, 0, 23), 24);
        Checks.due("those behind it move", hall.bound(0, 0, 24), 26);
        Checks.due("the last goes", hall.withdraw(49), 0);
        Checks.refused(hall, Checks.INDEX, "47 are left", () -> hall.bound(0, 0, 47));
        Checks.due("the last of them", hall.bound(0, 0, 46), 48);
    }

    private static void aRowMayBeEmpty() {
        Hall hall = new Hall();
        hall.reference(0, 0, 2, -1);
        Checks.due("at least 0", hall.enable(0, true), ServiceHall.ACTIVE);
        Checks.due("none", hall.look(0, 6), 0);
        Checks.refused(hall, Checks.INDEX, "so not the first either", () -> hall.bound(0, 0, 0));
    }
}
