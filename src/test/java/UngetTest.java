import java.util.NoSuchElementException;

/** Promise 11: GIVING BACK. */
public final class UngetTest {
    public static void main(String[] args) {
        onlyWhatWasGot();
        makesADelayedOneInactive();
        leavesOthersAlone();
        aCircleFallsApart();
        Checks.end();
    }

    private static void onlyWhatWasGot() {
        ServiceHall hall = new ServiceHall();
        Class<NoSuchElementException> refusal = NoSuchElementException.class;
        Checks.refused(hall, refusal, "no service", () -> hall.unget(0));
        Checks.refused(hall, refusal, "service -1", () -> hall.unget(-1));
        Checks.refused(hall, refusal, "service 50", () -> hall.unget(50));
        hall.register(0, 0);
        Checks.refused(hall, refusal, "not got", () -> hall.unget(0));
        Checks.component(hall, 0, -1, false, 0, 1);
        hall.enable(0, true);
        Checks.refused(hall, refusal, "got by a component alone", () -> hall.unget(0));
        hall.get(0);
        hall.get(0);
        Checks.due("given back", hall.unget(0), 2);
        hall.withdraw(0);
        Checks.due("given back when it is gone", hall.unget(0), 0);
        Checks.refused(hall, refusal, "all is given back", () -> hall.unget(0));
    }

    private static void makesADelayedOneInactive() {
        ServiceHall hall = Checks.delayedChain();
        hall.get(2);
        hall.get(2);
        Checks.due("one use is left", hall.unget(2), 1);
        Checks.due("it stays ACTIVE", hall.look(1, 0), ServiceHall.ACTIVE);
        Checks.due("none is left", hall.unget(2), 0);
        Checks.due("it is READY", hall.look(1, 0), ServiceHall.READY);
        Checks.due("what it had is READY too", hall.look(0, 0), ServiceHall.READY);
        Checks.due("made INACTIVE", hall.look(1, 4) + hall.look(0, 4), 2);
        Checks.due("nothing bound", hall.look(1, 6) + hall.look(0, 6) + hall.service(0, 4), 0);
        Checks.due("the service is still there", hall.service(2, 0), 1);
        Checks.due("and can be got again", hall.get(2), 1);
        Checks.due("made twice", hall.look(1, 2), 2);
    }

    private static void leavesOthersAlone() {
        ServiceHall hall = new ServiceHall();
        hall.describe(0, 0, 0, false, false);
        hall.enable(0, true);
        hall.get(0);
        hall.unget(0);
        Checks.due("one that is not delayed", hall.look(0, 0), ServiceHall.ACTIVE);
        hall.describe(1, 1, 0, true, false);
        hall.enable(1, true);
        hall.get(1);
        hall.enable(1, false);
        hall.enable(1, true);
        hall.get(2);
        Checks.due("its service of before, gone since", hall.unget(1), 0);
        Checks.due("leaves it ACTIVE", hall.look(1, 0), ServiceHall.ACTIVE);
        Checks.due("by its new one", hall.service(2, 4), 1);
    }

    /** Two that hold each other: the better service comes instead of one, and both go. */
    private static void aCircleFallsApart() {
        ServiceHall hall = new ServiceHall();
        Checks.component(hall, 0, 0, true, 1, 4 + 8);
        hall.enable(0, true);
        hall.get(0);
        Checks.component(hall, 1, 1, true, 0, 1);
        hall.enable(1, true);
        Checks.due("the first has the other", hall.bound(0, 0, 0), 1);
        Checks.due("the other the first", hall.bound(1, 0, 0), 0);
        Checks.due("they hold each other", hall.unget(0), 1);
        Checks.due("and stay", hall.count(3), 2);
        hall.register(1, 5);
        Checks.due("both are READY", hall.look(0, 0) + hall.look(1, 0), 2 * ServiceHall.READY);
        Checks.due("the better one was bound", hall.count(4), 3);
        Checks.due("and all is given back", hall.service(0, 4) + hall.service(1, 4) + hall.service(2, 4), 0);
        Checks.due("nothing is bound", hall.look(0, 6) + hall.look(1, 6), 0);
    }
}
