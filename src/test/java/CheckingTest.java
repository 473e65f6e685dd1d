/** Terms: CHECKING, and what becomes of a COMPONENT if there is no number left. */
public final class CheckingTest {
    public static void main(String[] args) {
        eachReferenceThatNeedsOneMustHaveATarget();
        aTargetThatCannotBeGotIsOneToo();
        aDelayedOneIsReady();
        anotherIsActiveBeforeItsServiceComes();
        theLastNumberIsTaken();
        noNumberLeftForADelayedOne();
        noNumberLeftForAnActiveOne();
        noNumberLeftIsTriedAgain();
        noNumberLeftWhenOneIsMadeAnew();
        noNumberLeftForOneThatFails();
        noNumberIsNeededForNothing();
        Checks.end();
    }

    private static void eachReferenceThatNeedsOneMustHaveATarget() {
        for (int lacking = 0; lacking < 3; lacking++) {
            Hall hall = new Hall();
            for (int r = 0; r < 3; r++) {
                hall.reference(0, r, 1, -1);
                if (r != lacking) {
                    hall.register(r, 0);
                }
            }
            Checks.due("lacking " + lacking, hall.enable(0, true), ServiceHall.WAITING);
            Checks.dueText("nothing is tried", hall.looks(0), "1 -1 0 0 0 3 0 0 0");
            Checks.due("nor bound", hall.count(4), 0);
            hall.register(lacking, 0);
            Checks.dueText("now all are there", hall.looks(0), "3 -1 1 0 0 3 1 1 1");
        }
        Hall hall = new Hall();
        hall.reference(0, 0, 1, -1);
        hall.reference(0, 1, 0, -1);
        hall.register(0, 0);
        Checks.due("one that needs none does not count", hall.enable(0, true), ServiceHall.ACTIVE);
    }

    private static void aTargetThatCannotBeGotIsOneToo() {
        Hall hall = new Hall();
        Checks.neverGot(hall, 7, 0, 0);
        Checks.component(hall, 0, 1, true, 0, 1);
        Checks.due("a delayed one does not ask yet", hall.enable(0, true), ServiceHall.READY);
        Checks.due("nothing was tried", hall.look(7, 3), 0);
        Checks.component(hall, 1, 1, false, 0, 1);
        Checks.due("another one asks", hall.enable(1, true), ServiceHall.BROKEN);
        Checks.due("which was tried", hall.look(7, 3), 1);
    }

    private static void aDelayedOneIsReady() {
        Hall hall = new Hall();
        hall.register(0, 0);
        hall.describe(0, 1, 6, true, false);
        hall.reference(0, 0, 1, -1);
        Checks.due("it waits to be asked for", hall.enable(0, true), ServiceHall.READY);
        Checks.dueText("its service is there", hall.told(1), "1 1 6 0 0");
        Checks.dueText("it was never ACTIVE, and has nothing bound", hall.looks(0), "2 1 0 0 0 1 0 0 0");
    }

    private static void anotherIsActiveBeforeItsServiceComes() {
        Hall hall = new Hall();
        hall.register(0, 0);
        hall.describe(0, 1, 6, false, false);
        hall.reference(0, 0, 1, -1);
        Checks.due("at once", hall.enable(0, true), ServiceHall.ACTIVE);
        Checks.dueText("its service is there", hall.told(1), "1 1 6 0 0");
        Checks.dueText("what it needs is bound", hall.looks(0), "3 1 1 0 0 1 1 0 0");
        hall.describe(1, 1, 6, false, true);
        Checks.due("one that does not work", hall.enable(1, true), ServiceHall.BROKEN);
        Checks.due("brings no service", hall.count(0), 2);
    }

    private static Hall with(int services) {
        Hall hall = new Hall();
        Checks.register(hall, services, 0);
        return hall;
    }

    private static void theLastNumberIsTaken() {
        Hall hall = with(49);
        hall.describe(0, 1, 0, false, false);
        Checks.due("ACTIVE", hall.enable(0, true), ServiceHall.ACTIVE);
        Checks.due("by number 49", hall.look(0, 1), 49);
        hall = with(49);
        hall.describe(0, 1, 0, true, false);
        Checks.due("READY", hall.enable(0, true), ServiceHall.READY);
        Checks.due("by number 49", hall.look(0, 1), 49);
        Checks.due("it can be got", hall.get(49), 1);
    }

    private static void noNumberLeftForADelayedOne() {
        Hall hall = with(50);
        Checks.component(hall, 0, 1, true, 0, 1);
        Checks.due("none left", hall.enable(0, true), ServiceHall.BROKEN);
        Checks.dueText("it was never ACTIVE", hall.looks(0), "4 -1 0 0 0 1 0 0 0");
        Checks.dueText("nothing was bound or noted", hall.counts(), "50 50 50 0 0 0");
        Checks.component(hall, 1, 1, true, 5, 1);
        Checks.due("one that lacks something waits all the same", hall.enable(1, true), ServiceHall.WAITING);
    }

    /** "(an ACTIVE one is made INACTIVE)" */
    private static void noNumberLeftForAnActiveOne() {
        Hall hall = with(48);
        hall.describe(1, 1, 0, true, false);
        hall.enable(1, true);
        hall.register(1, -1);
        hall.describe(0, 2, 0, false, false);
        hall.reference(0, 0, 2, -1);
        hall.reference(0, 1, 1, -1);
        Checks.due("none left", hall.enable(0, true), ServiceHall.BROKEN);
        Checks.dueText("ACTIVE and INACTIVE once, not failed, nothing bound", hall.looks(0), "4 -1 1 0 1 2 0 0 0");
        Checks.dueText("49 were bound", hall.counts(), "50 50 50 0 49 0");
        Checks.due("and given back", hall.service(0, 4) + hall.service(47, 4) + hall.service(48, 4), 0);
        Checks.dueText("the delayed one is READY again", hall.looks(1), "2 48 1 0 1 0 0 0 0");
        Checks.due("BROKEN goes OFF", hall.enable(0, false), ServiceHall.OFF);
        Checks.due("which is not made INACTIVE again", hall.look(0, 4), 1);
    }

    private static void noNumberLeftIsTriedAgain() {
        Hall hall = with(50);
        Checks.component(hall, 0, 1, false, 0, 1);
        Checks.component(hall, 1, 1, true, 0, 1);
        hall.enable(0, true);
        hall.enable(1, true);
        hall.property(0, 0, 1, false);
        Checks.dueText("ACTIVE and INACTIVE once more", hall.looks(0), "4 -1 2 0 2 1 0 0 0");
        Checks.dueText("a delayed one as before", hall.looks(1), "4 -1 0 0 0 1 0 0 0");
        hall.withdraw(0);
        Checks.due("a number does not come free", hall.look(0, 0), ServiceHall.BROKEN);
        Checks.due("it was tried", hall.look(0, 2), 3);
        for (int s = 1; s < 50; s++) {
            hall.withdraw(s);
        }
        Checks.due("without a target it waits", hall.look(0, 0) + hall.look(1, 0), 2 * ServiceHall.WAITING);
    }

    private static void noNumberLeftWhenOneIsMadeAnew() {
        Hall hall = with(49);
        Checks.component(hall, 0, 1, false, 0, 1);
        hall.enable(0, true);
        hall.withdraw(0);
        Checks.dueText("made anew it has no number", hall.looks(0), "4 -1 2 0 2 1 0 0 0");
        Checks.due("its service is gone", hall.service(49, 0), 0);
        Checks.due("nothing is bound", hall.service(1, 4), 0);
    }

    private static void noNumberLeftForOneThatFails() {
        Hall hall = with(50);
        hall.describe(0, 1, 0, false, true);
        Checks.due("none left", hall.enable(0, true), ServiceHall.BROKEN);
        Checks.dueText("it did not work before that is seen", hall.looks(0), "4 -1 0 1 0 0 0 0 0");
        hall.describe(1, 1, 0, true, true);
        Checks.due("none left", hall.enable(1, true), ServiceHall.BROKEN);
        Checks.dueText("a delayed one was not tried", hall.looks(1), "4 -1 0 0 0 0 0 0 0");
    }

    private static void noNumberIsNeededForNothing() {
        Hall hall = with(50);
        Checks.due("it provides nothing", hall.enable(0, true), ServiceHall.ACTIVE);
        hall.describe(1, -1, 0, true, false);
        Checks.due("so it is never delayed", hall.enable(1, true), ServiceHall.ACTIVE);
        Checks.component(hall, 2, -1, false, 0, 1 + 2);
        Checks.due("with all of them", hall.enable(2, true), ServiceHall.ACTIVE);
        Checks.due("fifty", hall.look(2, 6), 50);
    }
}
