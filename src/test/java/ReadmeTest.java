/** The example of README.md, call by call. */
public final class ReadmeTest {
    public static void main(String[] args) {
        Hall hall = new Hall();
        Checks.due("text", hall.text(0x29313d6128L), 5);
        Checks.due("filter", hall.filter(0), 1);
        Checks.due("describe", hall.describe(0, 1, 5, false, false), 1);
        Checks.due("reference", hall.reference(0, 0, 1 + 4, 0), 1);
        Checks.due("enable", hall.enable(0, true), ServiceHall.WAITING);
        Checks.due("register", hall.register(0, 7), 0);
        Checks.due("property", hall.property(0, 0, 1.0, false), 0);
        Checks.due("look", hall.look(0, 0), ServiceHall.ACTIVE);
        Checks.due("bound", hall.bound(0, 0, 0), 0);
        Checks.due("best", hall.best(1, -1), 1);
        Checks.due("withdraw", hall.withdraw(0), 0);
        Checks.due("look", hall.look(0, 0), ServiceHall.WAITING);
        theFiltersNamedThereAreFilters();
        Checks.end();
    }

    private static void theFiltersNamedThereAreFilters() {
        Hall hall = new Hall();
        Checks.due("the first", Checks.setFilter(hall, 0, "(&(a>=1)(!(b=*)))"), 2);
        Checks.due("the second", Checks.setFilter(hall, 1, "(|(c=-2.5)(d<=0))"), 2);
    }
}
