/** Terms: ACTIVATING and MAKING INACTIVE. */
public final class ActivatingTest {
    public static void main(String[] args) {
        withoutReferences();
        bindsTheBestThatCanBeGot();
        bindsAllThatCanBeGot();
        worksWithNoneWhereNoneIsNeeded();
        doesNotWorkWithNoneWhereOneIsNeeded();
        doesNotWorkIfItFails();
        goesThroughAllReferences();
        givesBackAllWhenItDoesNotWork();
        mayTryADelayedOneOftenInOneGo();
        sharesWhatIsActiveAlready();
        isReadyMeanwhile();
        Checks.end();
    }

    private static void withoutReferences() {
        Hall hall = new Hall();
        Checks.due("nothing to bind", hall.enable(0, true), ServiceHall.ACTIVE);
        Checks.due("no bindings", hall.count(4), 0);
    }

    /** "at most one: the best TARGET that can be got (the best first; those that can't be got are passed over)" */
    private static void bindsTheBestThatCanBeGot() {
        Hall hall = new Hall();
        Checks.neverGot(hall, 7, 0, 9);
        Checks.neverGot(hall, 6, 0, 8);
        hall.register(0, 1);
        hall.register(0, 3);
        hall.register(0, 3);
        Checks.neverGot(hall, 5, 0, 2);
        Checks.component(hall, 0, -1, false, 0, 1);
        hall.enable(0, true);
        Checks.dueText("the first of those that can be got", hall.row(0, 0), "3");
        Checks.due("the best was tried", hall.look(7, 3), 1);
        Checks.due("the second was tried", hall.look(6, 3), 1);
        Checks.due("none behind it was", hall.look(5, 3), 0);
        Checks.due("one binding", hall.count(4), 1);
    }

    private static void bindsAllThatCanBeGot() {
        Hall hall = new Hall();
        Checks.neverGot(hall, 7, 0, 9);
        hall.register(0, 1);
        hall.register(0, 3);
        Checks.neverGot(hall, 6, 0, 2);
        hall.register(0, 3);
        Checks.component(hall, 0, -1, false, 0, 1 + 2);
        hall.enable(0, true);
        Checks.dueText("the best first, without those that can't be got", hall.row(0, 0), "2 4 1");
        Checks.due("each was tried", hall.look(7, 3) + hall.look(6, 3), 2);
        Checks.due("three bindings", hall.count(4), 3);
    }

    private static void worksWithNoneWhereNoneIsNeeded() {
        for (int kind : new int[] {0, 2, 4, 6, 8, 10, 12, 14}) {
            Hall hall = new Hall();
            Checks.neverGot(hall, 7, 0, 0);
            Checks.component(hall, 0, -1, false, 0, kind);
            Checks.due("kind " + kind, hall.enable(0, true), ServiceHall.ACTIVE);
            Checks.dueText("kind " + kind + " has none", hall.row(0, 0), "");
        }
    }

    private static void doesNotWorkWithNoneWhereOneIsNeeded() {
        for (int kind : new int[] {1, 3, 5, 7, 9, 11, 13, 15}) {
            Hall hall = new Hall();
            Checks.neverGot(hall, 7, 0, 0);
            Checks.component(hall, 0, 1, false, 0, kind);
            Checks.due("kind " + kind, hall.enable(0, true), ServiceHall.BROKEN);
            Checks.dueText("kind " + kind, hall.looks(0), "4 -1 0 1 0 1 0 0 0");
        }
    }

    private static void doesNotWorkIfItFails() {
        Hall hall = new Hall();
        hall.describe(0, 1, 0, false, true);
        Checks.due("without references", hall.enable(0, true), ServiceHall.BROKEN);
        Checks.dueText("it did not work once", hall.looks(0), "4 -1 0 1 0 0 0 0 0");
        hall.register(0, 0);
        hall.describe(1, 1, 0, false, true);
        hall.reference(1, 0, 1, -1);
        Checks.due("with all it needs", hall.enable(1, true), ServiceHall.BROKEN);
        Checks.due("which was bound", hall.count(4), 1);
        Checks.due("and given back", hall.service(0, 4), 0);
    }

    /** No end before the last reference is named: what comes behind one without any is bound and given back too. */
    private static void goesThroughAllReferences() {
        Hall hall = new Hall();
        Checks.neverGot(hall, 7, 0, 0);
        hall.describe(6, 1, 0, true, false);
        hall.enable(6, true);
        hall.reference(0, 0, 1, -1);
        hall.reference(0, 1, 1, -1);
        Checks.due("the first has none", hall.enable(0, true), ServiceHall.BROKEN);
        Checks.due("the second was bound", hall.count(4), 1);
        Checks.dueText("and given back", hall.looks(6), "2 1 1 0 1 0 0 0 0");
    }

    private static void givesBackAllWhenItDoesNotWork() {
        Hall hall = new Hall();
        hall.register(0, 0);
        hall.register(0, 0);
        hall.describe(1, 1, 0, true, false);
        hall.enable(1, true);
        Checks.neverGot(hall, 2, 2, 0);
        hall.describe(0, 3, 0, false, false);
        hall.reference(0, 0, 1 + 2, -1);
        hall.reference(0, 1, 1, -1);
        hall.reference(0, 2, 1, -1);
        Checks.due("there are targets, but one can't be got", hall.enable(0, true), ServiceHall.BROKEN);
        Checks.dueText("not counted as made INACTIVE, nothing bound", hall.looks(0), "4 -1 0 1 0 3 0 0 0");
        Checks.due("three were bound", hall.count(4), 3);
        for (int s = 0; s < 4; s++) {
            Checks.due("no uses of " + s, hall.service(s, 4), 0);
        }
        Checks.dueText("the delayed one was made for it, and is READY", hall.looks(1), "2 2 1 0 1 0 0 0 0");
    }

    private static void mayTryADelayedOneOftenInOneGo() {
        Hall hall = new Hall();
        Checks.neverGot(hall, 7, 0, 9);
        hall.register(0, 0);
        for (int kind : new int[] {1, 2, 0}) {
            hall.reference(0, 0, kind, -1);
        }
        Checks.due("it works", hall.enable(0, true), ServiceHall.ACTIVE);
        Checks.dueText("each has the other one", hall.looks(0), "3 -1 1 0 0 3 1 1 1");
        Checks.due("each has tried the best", hall.look(7, 3), 3);
        Checks.due("three uses", hall.service(1, 4), 3);
    }

    private static void sharesWhatIsActiveAlready() {
        Hall hall = new Hall();
        hall.describe(7, 0, 0, true, false);
        hall.enable(7, true);
        hall.reference(0, 0, 1, -1);
        hall.reference(0, 0, 1 + 2, -1);
        hall.enable(0, true);
        hall.reference(1, 0, 1, -1);
        hall.enable(1, true);
        Checks.due("three uses", hall.service(0, 4), 3);
        Checks.due("made once", hall.look(7, 2), 1);
        hall.enable(0, false);
        Checks.due("one use is left", hall.look(7, 0), ServiceHall.ACTIVE);
        hall.enable(1, false);
        Checks.dueText("none is left", hall.looks(7), "2 0 1 0 1 0 0 0 0");
    }

    /** The other one gives back the very service of the one that is made INACTIVE: it is not made so twice. */
    private static void isReadyMeanwhile() {
        Hall hall = new Hall();
        Checks.component(hall, 0, 0, true, 1, 4 + 8);
        hall.enable(0, true);
        hall.get(0);
        Checks.component(hall, 1, 1, true, 0, 1);
        hall.enable(1, true);
        hall.unget(0);
        Checks.due("they hold each other", hall.count(3), 2);
        hall.enable(0, false);
        Checks.due("made INACTIVE once", hall.look(0, 4), 1);
        Checks.due("the other one too", hall.look(1, 4), 1);
        Checks.due("and waits", hall.look(1, 0), ServiceHall.WAITING);
        Checks.due("no uses are left", hall.service(0, 4) + hall.service(1, 4), 0);
    }
}
