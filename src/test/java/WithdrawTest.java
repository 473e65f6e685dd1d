import java.util.NoSuchElementException;

/** Promise 5. */
public final class WithdrawTest {
    public static void main(String[] args) {
        ServiceHall hall = new ServiceHall();
        Checks.component(hall, 0, -1, false, 0, 1);
        Checks.component(hall, 1, 3, false, 0, 3);
        hall.enable(0, true);
        hall.enable(1, true);
        hall.register(0, 0);
        hall.get(0);
        hall.get(0);
        Checks.due("uses before", hall.service(0, 4), 4);
        Checks.due("components have given back, outside has not", hall.withdraw(0), 2);
        Checks.due("it is not there", hall.service(0, 0), 0);
        Checks.due("they wait", hall.look(0, 0) + hall.look(1, 0), 2 * ServiceHall.WAITING);
        Checks.due("so its service is gone too", hall.count(1), 0);
        Checks.due("four notes", hall.count(2), 4);
        refusals(hall);
        bringsTheNextBest();
        Checks.end();
    }

    private static void refusals(ServiceHall hall) {
        Class<NoSuchElementException> refusal = NoSuchElementException.class;
        Checks.refused(hall, refusal, "it is gone", () -> hall.withdraw(0));
        Checks.refused(hall, refusal, "number -1", () -> hall.withdraw(-1));
        Checks.refused(hall, refusal, "number 2", () -> hall.withdraw(2));
        Checks.refused(hall, refusal, "number 50", () -> hall.withdraw(50));
        hall.register(0, 0);
        Checks.due("it comes from a component", hall.service(3, 3), 1);
        Checks.refused(hall, refusal, "from a component", () -> hall.withdraw(3));
    }

    private static void bringsTheNextBest() {
        ServiceHall hall = new ServiceHall();
        Checks.component(hall, 0, -1, false, 0, 1 + 4);
        hall.register(0, 1);
        hall.register(0, 3);
        hall.register(0, 2);
        hall.enable(0, true);
        Checks.due("the best", hall.bound(0, 0, 0), 1);
        Checks.due("one that is not bound", hall.withdraw(0), 0);
        Checks.due("changes nothing", hall.bound(0, 0, 0), 1);
        hall.withdraw(1);
        Checks.due("the next best", hall.bound(0, 0, 0), 2);
        Checks.due("without being made anew", hall.look(0, 2), 1);
        hall.withdraw(2);
        Checks.due("the last is gone", hall.look(0, 0), ServiceHall.WAITING);
        Checks.due("made inactive once", hall.look(0, 4), 1);
    }
}
