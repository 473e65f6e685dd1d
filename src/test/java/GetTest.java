import java.util.NoSuchElementException;

/** Promise 10: GETTING. */
public final class GetTest {
    public static void main(String[] args) {
        fromOutside();
        fromADelayedOne();
        whatCannotBeGot();
        whatIsGoingOnAlready();
        Checks.end();
    }

    private static void fromOutside() {
        ServiceHall hall = new ServiceHall();
        Checks.refused(hall, NoSuchElementException.class, "service 0", () -> hall.get(0));
        Checks.refused(hall, NoSuchElementException.class, "service -1", () -> hall.get(-1));
        Checks.refused(hall, NoSuchElementException.class, "service 50", () -> hall.get(50));
        hall.register(0, 0);
        Checks.due("once", hall.get(0), 1);
        Checks.due("twice", hall.get(0), 2);
        Checks.due("no binding", hall.count(4), 0);
        Checks.component(hall, 0, 1, false, 0, 1);
        hall.enable(0, true);
        Checks.due("bindings are uses too", hall.get(0), 4);
        Checks.due("from a component that is ACTIVE", hall.get(1), 1);
        hall.withdraw(0);
        Checks.refused(hall, NoSuchElementException.class, "it is gone", () -> hall.get(0));
        Checks.refused(hall, NoSuchElementException.class, "so is the component's", () -> hall.get(1));
    }

    private static void fromADelayedOne() {
        ServiceHall hall = Checks.delayedChain();
        Checks.due("READY, nothing bound", hall.look(1, 0) * 10 + hall.service(0, 4), 20);
        Checks.due("asked for", hall.get(2), 1);
        Checks.due("it is ACTIVE", hall.look(1, 0), ServiceHall.ACTIVE);
        Checks.due("what it needs too", hall.look(0, 0), ServiceHall.ACTIVE);
        Checks.due("which is bound", hall.bound(1, 0, 0), 1);
        Checks.due("and has what it needs", hall.bound(0, 0, 0), 0);
        Checks.due("again", hall.get(2), 2);
        Checks.due("it was made once", hall.look(1, 2), 1);
        Checks.due("the services are the same", hall.count(0), 3);
        Checks.due("no note of it", hall.count(2), 3);
    }

    private static void whatCannotBeGot() {
        ServiceHall hall = new ServiceHall();
        hall.register(0, 0);
        hall.describe(0, 1, 0, true, true);
        hall.reference(0, 0, 1, -1);
        hall.enable(0, true);
        Checks.thrown(IllegalStateException.class, "it FAILS", () -> hall.get(1));
        Checks.due("it stays READY", hall.look(0, 0), ServiceHall.READY);
        Checks.due("that it did not work is kept", hall.look(0, 3), 1);
        Checks.due("so is the binding", hall.count(4), 1);
        Checks.due("no uses", hall.service(1, 4) + hall.service(0, 4), 0);
        Checks.due("nothing bound", hall.look(0, 6), 0);
        Checks.refused(hall, NoSuchElementException.class, "it was not got", () -> hall.unget(1));
        Checks.component(hall, 1, 2, true, 1, 1);
        Checks.due("there is a target", hall.enable(1, true), ServiceHall.READY);
        Checks.thrown(IllegalStateException.class, "which can't be got", () -> hall.get(2));
        Checks.due("one did not work", hall.look(1, 3), 1);
        Checks.due("since the other did not", hall.look(0, 3), 2);
    }

    private static void whatIsGoingOnAlready() {
        ServiceHall hall = new ServiceHall();
        Checks.component(hall, 0, 0, true, 1, 0);
        Checks.component(hall, 1, 1, true, 0, 0);
        hall.enable(0, true);
        hall.enable(1, true);
        Checks.due("each would have the other", hall.get(0), 1);
        Checks.due("the first has", hall.bound(0, 0, 0), 1);
        Checks.due("the other was asked while the first was going on", hall.look(1, 6), 0);
        Checks.due("that is not that ACTIVATING did not work", hall.look(0, 3), 0);
        Checks.due("both are ACTIVE", hall.count(3), 2);
        hall.unget(0);
        hall.enable(0, false);
        hall.enable(1, false);
        needingEachOther(hall);
    }

    private static void needingEachOther(ServiceHall hall) {
        hall.register(1, -9);
        Checks.component(hall, 0, 0, true, 1, 1);
        Checks.component(hall, 1, 1, true, 0, 1);
        hall.enable(0, true);
        hall.enable(1, true);
        Checks.due("both are READY", hall.look(0, 0) + hall.look(1, 0), 2 * ServiceHall.READY);
        int first = hall.look(0, 1);
        int other = hall.look(1, 1);
        Checks.due("the first takes the lesser one", hall.get(first), 1);
        Checks.due("the lesser one", hall.bound(0, 0, 0), 2);
        Checks.due("since the other did not work", hall.look(1, 3), 1);
        Checks.due("and is READY", hall.look(1, 0), ServiceHall.READY);
        Checks.due("now it works", hall.get(other), 1);
        Checks.due("by the first", hall.bound(1, 0, 0), first);
    }
}
