/** Promise 11: GIVING BACK. */
public final class UngetTest {
    public static void main(String[] args) {
        answersTheUses();
        refusesNumbersThatNeverWere();
        refusesWhatWasNotGot();
        refusesWhatComponentsGot();
        refusesMoreThanWasGot();
        takesBackWhatIsGone();
        makesADelayedOneInactive();
        notBeforeTheLastUse();
        notIfAComponentHasIt();
        notOneThatIsNotDelayed();
        notByAServiceThatIsGone();
        aCircleFallsApart();
        Checks.end();
    }

    private static void answersTheUses() {
        Hall hall = new Hall();
        hall.register(0, 0);
        Checks.component(hall, 0, -1, false, 0, 1);
        hall.enable(0, true);
        hall.get(0);
        hall.get(0);
        Checks.due("three less one", hall.unget(0), 2);
        Checks.due("the component's is left", hall.unget(0), 1);
        Checks.dueText("no notes of that", hall.counts(), "1 1 1 1 1 0");
    }

    private static void refusesNumbersThatNeverWere() {
        Hall hall = new Hall();
        Checks.refused(hall, Checks.ELEMENT, "service 0 of none", () -> hall.unget(0));
        hall.register(0, 0);
        hall.get(0);
        for (int s : Checks.outside(0, 0)) {
            Checks.refused(hall, Checks.ELEMENT, "service " + s, () -> hall.unget(s));
        }
        Checks.register(hall, 49, 0);
        hall.get(49);
        Checks.refused(hall, Checks.ELEMENT, "service 50 of 50", () -> hall.unget(50));
        Checks.due("the last", hall.unget(49), 0);
        Checks.due("the first", hall.unget(0), 0);
    }

    private static void refusesWhatWasNotGot() {
        Hall hall = new Hall();
        hall.register(0, 0);
        hall.register(0, 0);
        hall.get(1);
        Checks.refused(hall, Checks.ELEMENT, "another one was", () -> hall.unget(0));
    }

    private static void refusesWhatComponentsGot() {
        Hall hall = new Hall();
        hall.register(0, 0);
        Checks.component(hall, 0, -1, false, 0, 1);
        hall.enable(0, true);
        Checks.due("a component has it", hall.service(0, 4), 1);
        Checks.refused(hall, Checks.ELEMENT, "outside has not", () -> hall.unget(0));
    }

    private static void refusesMoreThanWasGot() {
        Hall hall = new Hall();
        hall.register(0, 0);
        Checks.component(hall, 0, -1, false, 0, 1);
        hall.enable(0, true);
        hall.get(0);
        hall.get(0);
        hall.unget(0);
        hall.unget(0);
        Checks.refused(hall, Checks.ELEMENT, "a third time", () -> hall.unget(0));
        Checks.due("the component has it still", hall.service(0, 4), 1);
    }

    /** "(THERE or not)" */
    private static void takesBackWhatIsGone() {
        Hall hall = new Hall();
        hall.register(0, 0);
        hall.get(0);
        hall.get(0);
        hall.withdraw(0);
        Checks.due("one is left", hall.unget(0), 1);
        Checks.due("none is left", hall.unget(0), 0);
        Checks.refused(hall, Checks.ELEMENT, "all is given back", () -> hall.unget(0));
    }

    private static void makesADelayedOneInactive() {
        Hall hall = Checks.delayedChain();
        hall.get(2);
        Checks.due("none is left", hall.unget(2), 0);
        Checks.dueText("it is READY", hall.looks(1), "2 2 1 0 1 1 0 0 0");
        Checks.dueText("what it had is READY too", hall.looks(0), "2 1 1 0 1 1 0 0 0");
        Checks.due("all is given back", hall.service(0, 4) + hall.service(1, 4), 0);
        Checks.due("the service is still there", hall.service(2, 0), 1);
        Checks.due("and can be got again", hall.get(2), 1);
        Checks.due("made twice", hall.look(1, 2), 2);
    }

    private static void notBeforeTheLastUse() {
        Hall hall = Checks.delayedChain();
        hall.get(2);
        hall.get(2);
        Checks.due("one use is left", hall.unget(2), 1);
        Checks.due("it stays ACTIVE", hall.look(1, 0), ServiceHall.ACTIVE);
    }

    private static void notIfAComponentHasIt() {
        Hall hall = Checks.delayedChain();
        hall.get(1);
        hall.get(2);
        Checks.due("a component has it", hall.unget(1), 1);
        Checks.due("it stays ACTIVE", hall.look(0, 0), ServiceHall.ACTIVE);
        hall.unget(2);
        Checks.due("until that gives it back", hall.look(0, 0), ServiceHall.READY);
    }

    private static void notOneThatIsNotDelayed() {
        Hall hall = new Hall();
        hall.describe(0, 0, 0, false, false);
        hall.enable(0, true);
        hall.get(0);
        Checks.due("no uses", hall.unget(0), 0);
        Checks.dueText("it stays ACTIVE", hall.looks(0), "3 0 1 0 0 0 0 0 0");
    }

    private static void notByAServiceThatIsGone() {
        Hall hall = new Hall();
        hall.describe(1, 1, 0, true, false);
        hall.enable(1, true);
        hall.get(0);
        hall.enable(1, false);
        hall.enable(1, true);
        hall.get(1);
        Checks.due("its service of before", hall.unget(0), 0);
        Checks.dueText("leaves it ACTIVE", hall.looks(1), "3 1 2 0 1 0 0 0 0");
        Checks.due("by its new one", hall.service(1, 4), 1);
    }

    /** Two that hold each other: the better service comes instead of one, and both go. */
    private static void aCircleFallsApart() {
        Hall hall = new Hall();
        Checks.component(hall, 0, 0, true, 1, 4 + 8);
        hall.enable(0, true);
        hall.get(0);
        Checks.component(hall, 1, 1, true, 0, 1);
        hall.enable(1, true);
        Checks.dueText("the first has the other", hall.row(0, 0), "1");
        Checks.dueText("the other the first", hall.row(1, 0), "0");
        Checks.due("they hold each other", hall.unget(0), 1);
        Checks.due("and stay", hall.count(3), 2);
        hall.register(1, 5);
        Checks.dueText("the better one was bound, then both went", hall.counts(), "3 3 3 0 3 0");
        Checks.dueText("the first", hall.looks(0), "2 0 1 0 1 1 0 0 0");
        Checks.dueText("the other", hall.looks(1), "2 1 1 0 1 1 0 0 0");
        Checks.due("all is given back", hall.service(0, 4) + hall.service(1, 4) + hall.service(2, 4), 0);
    }
}
