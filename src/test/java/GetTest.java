/** Promise 10: GETTING, and when a SERVICE can't be got. */
public final class GetTest {
    public static void main(String[] args) {
        answersTheUses();
        refusesNumbersThatNeverWere();
        refusesWhatIsGone();
        leavesOneThatIsNotDelayedAsItIs();
        activatesADelayedOneThatIsReady();
        leavesADelayedOneThatIsActive();
        isRefusedIfItFails();
        isRefusedIfItLacksWhatItNeeds();
        isNotRefusedIfItLacksWhatItDoesNotNeed();
        worksBehindARefusal();
        whatIsGoingOnAlreadyIsPassedOver();
        whatIsGoingOnAlreadyMayBeNeeded();
        isGoingOnNoMoreBehindARefusal();
        goesEightDeep();
        Checks.end();
    }

    private static void answersTheUses() {
        Hall hall = new Hall();
        hall.register(0, 0);
        Checks.due("once", hall.get(0), 1);
        Checks.due("twice", hall.get(0), 2);
        Checks.component(hall, 0, 1, false, 0, 1);
        hall.enable(0, true);
        Checks.due("bindings are uses too", hall.get(0), 4);
        Checks.dueText("but this is no binding, nor a note", hall.counts(), "2 2 2 1 1 0");
    }

    private static void refusesNumbersThatNeverWere() {
        Hall hall = new Hall();
        Checks.refused(hall, Checks.ELEMENT, "service 0 of none", () -> hall.get(0));
        hall.register(0, 0);
        for (int s : Checks.outside(0, 0)) {
            Checks.refused(hall, Checks.ELEMENT, "service " + s, () -> hall.get(s));
        }
        Checks.register(hall, 49, 0);
        Checks.refused(hall, Checks.ELEMENT, "service 50 of 50", () -> hall.get(50));
        Checks.due("the last", hall.get(49), 1);
        Checks.due("the first", hall.get(0), 1);
    }

    private static void refusesWhatIsGone() {
        Hall hall = new Hall();
        hall.register(0, 0);
        Checks.component(hall, 0, 1, false, 0, 1);
        hall.enable(0, true);
        hall.get(0);
        hall.get(1);
        hall.withdraw(0);
        Checks.refused(hall, Checks.ELEMENT, "gone, though somebody has it", () -> hall.get(0));
        Checks.refused(hall, Checks.ELEMENT, "so is the component's", () -> hall.get(1));
    }

    private static void leavesOneThatIsNotDelayedAsItIs() {
        Hall hall = new Hall();
        hall.describe(0, 0, 0, false, false);
        hall.enable(0, true);
        Checks.due("it is ACTIVE already", hall.get(0), 1);
        Checks.dueText("made once", hall.looks(0), "3 0 1 0 0 0 0 0 0");
    }

    private static void activatesADelayedOneThatIsReady() {
        Hall hall = Checks.delayedChain();
        Checks.due("READY, nothing bound", hall.look(1, 0) * 10 + hall.service(0, 4), 20);
        Checks.due("asked for", hall.get(2), 1);
        Checks.dueText("it is ACTIVE", hall.looks(1), "3 2 1 0 0 1 1 0 0");
        Checks.dueText("what it needs too", hall.looks(0), "3 1 1 0 0 1 1 0 0");
        Checks.due("which is bound", hall.bound(1, 0, 0), 1);
        Checks.due("and has what it needs", hall.bound(0, 0, 0), 0);
        Checks.dueText("the services are the same, no note of it", hall.counts(), "3 3 3 2 2 0");
    }

    private static void leavesADelayedOneThatIsActive() {
        Hall hall = Checks.delayedChain();
        hall.get(2);
        Checks.due("again", hall.get(2), 2);
        Checks.due("what it needs, from outside too", hall.get(1), 2);
        Checks.due("each was made once", hall.look(1, 2) + hall.look(0, 2), 2);
        Checks.due("and bound once", hall.count(4), 2);
    }

    private static void isRefusedIfItFails() {
        Hall hall = new Hall();
        hall.register(0, 0);
        hall.describe(0, 1, 0, true, true);
        hall.reference(0, 0, 1, -1);
        hall.enable(0, true);
        Checks.thrown(Checks.STATE, "it FAILS", () -> hall.get(1));
        Checks.dueText("it stays READY, and did not work once", hall.looks(0), "2 1 0 1 0 1 0 0 0");
        Checks.due("the binding is counted", hall.count(4), 1);
        Checks.due("no uses", hall.service(1, 4) + hall.service(0, 4), 0);
        Checks.refused(hall, Checks.ELEMENT, "it was not got", () -> hall.unget(1));
        hall.enable(0, false);
        hall.describe(0, 1, 0, true, false);
        hall.enable(0, true);
        Checks.due("described anew it works", hall.get(2), 1);
    }

    /** Its only target is there, but can't be got. */
    private static void isRefusedIfItLacksWhatItNeeds() {
        Hall hall = new Hall();
        Checks.neverGot(hall, 0, 1, 0);
        Checks.component(hall, 1, 2, true, 1, 1);
        Checks.due("there is a target", hall.enable(1, true), ServiceHall.READY);
        Checks.thrown(Checks.STATE, "which can't be got", () -> hall.get(1));
        Checks.dueText("one did not work", hall.looks(1), "2 1 0 1 0 1 0 0 0");
        Checks.dueText("since the other did not", hall.looks(0), "2 0 0 1 0 0 0 0 0");
        Checks.due("nothing was bound", hall.count(4), 0);
    }

    private static void isNotRefusedIfItLacksWhatItDoesNotNeed() {
        Hall hall = new Hall();
        Checks.neverGot(hall, 0, 1, 0);
        Checks.component(hall, 1, 2, true, 1, 2);
        hall.enable(1, true);
        Checks.due("it works without", hall.get(1), 1);
        Checks.dueText("ACTIVE with nothing", hall.looks(1), "3 1 1 0 0 1 0 0 0");
        Checks.due("the other was tried", hall.look(0, 3), 1);
    }

    private static void worksBehindARefusal() {
        Hall hall = new Hall();
        Checks.neverGot(hall, 0, 1, 9);
        Checks.component(hall, 1, 2, true, 1, 1);
        hall.enable(1, true);
        Checks.thrown(Checks.STATE, "what it needs can't be got", () -> hall.get(1));
        hall.register(1, 0);
        Checks.due("another one can", hall.get(1), 1);
        Checks.dueText("ACTIVE", hall.looks(1), "3 1 1 1 0 1 1 0 0");
        Checks.dueText("by that", hall.row(1, 0), "2");
    }

    /** "or is going on already": each would have the other. */
    private static void whatIsGoingOnAlreadyIsPassedOver() {
        Hall hall = new Hall();
        Checks.component(hall, 0, 0, true, 1, 0);
        Checks.component(hall, 1, 1, true, 0, 0);
        hall.enable(0, true);
        hall.enable(1, true);
        Checks.due("asked for", hall.get(0), 1);
        Checks.dueText("the first has the other", hall.row(0, 0), "1");
        Checks.dueText("the other was asked while the first was going on", hall.row(1, 0), "");
        Checks.due("that is not that ACTIVATING did not work", hall.look(0, 3) + hall.look(1, 3), 0);
        Checks.due("both are ACTIVE", hall.count(3), 2);
        Checks.due("its uses are from outside", hall.service(0, 4), 1);
    }

    private static void whatIsGoingOnAlreadyMayBeNeeded() {
        Hall hall = new Hall();
        hall.register(1, -9);
        Checks.component(hall, 0, 0, true, 1, 1);
        Checks.component(hall, 1, 1, true, 0, 1);
        hall.enable(0, true);
        hall.enable(1, true);
        Checks.due("both are READY", hall.look(0, 0) + hall.look(1, 0), 2 * ServiceHall.READY);
        Checks.due("the first takes the lesser one", hall.get(1), 1);
        Checks.dueText("the lesser one", hall.row(0, 0), "0");
        Checks.dueText("since the other did not work", hall.looks(1), "2 2 0 1 0 1 0 0 0");
        Checks.due("now it works", hall.get(2), 1);
        Checks.dueText("by the first", hall.row(1, 0), "1");
    }

    /** Two that need each other alone: neither can be got, however often one asks, until a third one comes. */
    private static void isGoingOnNoMoreBehindARefusal() {
        Hall hall = new Hall();
        hall.register(1, -9);
        Checks.component(hall, 0, 0, true, 1, 1);
        Checks.component(hall, 1, 1, true, 0, 1);
        hall.enable(0, true);
        hall.enable(1, true);
        hall.withdraw(0);
        Checks.due("each is the other's target", hall.look(0, 0) + hall.look(1, 0), 2 * ServiceHall.READY);
        for (int n = 1; n <= 2; n++) {
            Checks.thrown(Checks.STATE, "the first", () -> hall.get(1));
            Checks.due("both did not work", hall.look(0, 3) + hall.look(1, 3), 4 * n - 2);
            Checks.thrown(Checks.STATE, "the other", () -> hall.get(2));
            Checks.due("both did not work", hall.look(0, 3) + hall.look(1, 3), 4 * n);
        }
        hall.register(0, 0);
        Checks.due("the other takes the third", hall.get(2), 1);
        Checks.due("and the first the other", hall.get(1), 1);
        Checks.dueText("the third", hall.row(1, 0), "3");
        Checks.dueText("the other", hall.row(0, 0), "2");
    }

    /** A chain by all components there are; two interfaces come twice, and the better one is going on already. */
    private static void goesEightDeep() {
        Hall hall = new Hall();
        for (int c = 0; c < 8; c++) {
            hall.describe(c, c % 6, c, true, false);
            if (c > 0) {
                hall.reference(c, (c - 1) % 6, 1, -1);
            }
            Checks.due("component " + c, hall.enable(c, true), ServiceHall.READY);
        }
        Checks.due("the last is asked for", hall.get(7), 1);
        Checks.due("all are ACTIVE", hall.count(3), 8);
        for (int c = 1; c < 8; c++) {
            Checks.dueText("each by the one before it", hall.row(c, 0), String.valueOf(c - 1));
        }
        Checks.due("given back", hall.unget(7), 0);
        for (int c = 0; c < 8; c++) {
            Checks.dueText("all are READY", hall.looks(c), "2 " + c + " 1 0 1 " + (c == 0 ? 0 : 1) + " 0 0 0");
        }
    }
}
