/** Promise 5. */
public final class WithdrawTest {
    public static void main(String[] args) {
        answersTheUsesWhenTheNotesAreWorkedOff();
        leavesItKnown();
        refusesNumbersThatNeverWere();
        refusesWhatIsGone();
        refusesWhatComesFromAComponent();
        isNoted();
        bringsTheNextBest();
        Checks.end();
    }

    private static void answersTheUsesWhenTheNotesAreWorkedOff() {
        Hall hall = new Hall();
        Checks.component(hall, 0, -1, false, 0, 1);
        Checks.component(hall, 1, 3, false, 0, 3);
        hall.enable(0, true);
        hall.enable(1, true);
        hall.register(0, 0);
        hall.get(0);
        hall.get(0);
        Checks.due("uses before", hall.service(0, 4), 4);
        Checks.due("components have given back, outside has not", hall.withdraw(0), 2);
        Checks.due("they wait", hall.look(0, 0) + hall.look(1, 0), 2 * ServiceHall.WAITING);
        Checks.due("so its service is gone too", hall.count(1), 0);
        hall.register(1, 0);
        Checks.due("nobody has used it", hall.withdraw(2), 0);
    }

    private static void leavesItKnown() {
        Hall hall = new Hall();
        hall.register(2, 8);
        hall.property(0, 0, 4.5, false);
        hall.get(0);
        Checks.due("its uses", hall.withdraw(0), 1);
        Checks.dueText("what is told of it", hall.told(0), "0 2 8 -1 1");
        Checks.due("its property", hall.value(0, 0), 4.5);
        Checks.due("services so far", hall.count(0), 1);
    }

    private static void refusesNumbersThatNeverWere() {
        Hall hall = new Hall();
        Checks.refused(hall, Checks.ELEMENT, "service 0 of none", () -> hall.withdraw(0));
        hall.register(0, 0);
        hall.register(0, 0);
        for (int s : Checks.outside(0, 1)) {
            Checks.refused(hall, Checks.ELEMENT, "service " + s, () -> hall.withdraw(s));
        }
        Checks.register(hall, 48, 0);
        Checks.refused(hall, Checks.ELEMENT, "service 50 of 50", () -> hall.withdraw(50));
        Checks.due("the last", hall.withdraw(49), 0);
        Checks.due("the first", hall.withdraw(0), 0);
    }

    private static void refusesWhatIsGone() {
        Hall hall = new Hall();
        hall.register(0, 0);
        hall.get(0);
        hall.withdraw(0);
        Checks.refused(hall, Checks.ELEMENT, "gone, though somebody has it", () -> hall.withdraw(0));
        hall.unget(0);
        Checks.refused(hall, Checks.ELEMENT, "gone", () -> hall.withdraw(0));
    }

    private static void refusesWhatComesFromAComponent() {
        Hall hall = new Hall();
        hall.describe(0, 0, 0, false, false);
        hall.describe(1, 0, 0, true, false);
        hall.enable(0, true);
        hall.enable(1, true);
        Checks.refused(hall, Checks.ELEMENT, "from one that is ACTIVE", () -> hall.withdraw(0));
        Checks.refused(hall, Checks.ELEMENT, "from one that is READY", () -> hall.withdraw(1));
        hall.enable(0, false);
        Checks.refused(hall, Checks.ELEMENT, "from one that is OFF now", () -> hall.withdraw(0));
    }

    private static void isNoted() {
        Hall hall = new Hall();
        hall.register(0, 0);
        hall.withdraw(0);
        Checks.due("notes", hall.count(2), 2);
        Checks.refused(hall, Checks.ELEMENT, "again", () -> hall.withdraw(0));
        Checks.due("none for what was refused", hall.count(2), 2);
    }

    private static void bringsTheNextBest() {
        Hall hall = new Hall();
        Checks.component(hall, 0, -1, false, 0, 1 + 4);
        hall.register(0, 1);
        hall.register(0, 3);
        hall.register(0, 2);
        hall.enable(0, true);
        Checks.due("the best", hall.bound(0, 0, 0), 1);
        Checks.due("one that is not bound", hall.withdraw(0), 0);
        Checks.due("changes nothing", hall.bound(0, 0, 0), 1);
        hall.withdraw(1);
        Checks.due("the next best", hall.bound(0, 0, 0), 2);
        Checks.due("without being made anew", hall.look(0, 2), 1);
        hall.withdraw(2);
        Checks.due("the last is gone", hall.look(0, 0), ServiceHall.WAITING);
        Checks.due("made inactive once", hall.look(0, 4), 1);
    }
}
