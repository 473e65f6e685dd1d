/** Promise 9: CHECKING, ACTIVATING and STOPPING as enable brings them about. */
public final class EnableTest {
    public static void main(String[] args) {
        standsAsItIs();
        bindsTheBestThatCanBeGot();
        givesBackWhatDidNotWork();
        brokenIsTriedAgain();
        stoppingReachesOthers();
        readyIsStopped();
        runsOutOfNumbers();
        componentsInCircles();
        Checks.end();
    }

    private static void standsAsItIs() {
        ServiceHall hall = new ServiceHall();
        for (int c : new int[] {-1, 8, Integer.MIN_VALUE, Integer.MAX_VALUE}) {
            Checks.refused(hall, IllegalArgumentException.class, "on " + c, () -> hall.enable(c, true));
            Checks.refused(hall, IllegalArgumentException.class, "off " + c, () -> hall.enable(c, false));
        }
        Checks.due("OFF stays OFF", hall.enable(0, false), ServiceHall.OFF);
        Checks.component(hall, 0, 1, false, 0, 1);
        Checks.due("it waits", hall.enable(0, true), ServiceHall.WAITING);
        Checks.due("it waits still", hall.enable(0, true), ServiceHall.WAITING);
        hall.register(0, 0);
        Checks.due("on again changes nothing", hall.enable(0, true), ServiceHall.ACTIVE);
        Checks.due("nor how often it was made", hall.look(0, 2), 1);
        Checks.due("off", hall.enable(0, false), ServiceHall.OFF);
        Checks.due("its service is gone", hall.look(0, 1), -1);
        Checks.due("made INACTIVE", hall.look(0, 4), 1);
        hall.register(0, 0);
        Checks.due("what comes does not wake it", hall.look(0, 0), ServiceHall.OFF);
        Checks.due("on", hall.enable(0, true), ServiceHall.ACTIVE);
        Checks.due("with a new service", hall.look(0, 1), 3);
    }

    private static void bindsTheBestThatCanBeGot() {
        ServiceHall hall = new ServiceHall();
        hall.describe(7, 0, 9, true, true);
        hall.enable(7, true);
        hall.register(0, 1);
        hall.register(0, 3);
        hall.register(0, 3);
        hall.register(0, 2);
        hall.describe(0, -1, 0, false, false);
        hall.reference(0, 0, 1, -1);
        hall.reference(0, 0, 2, -1);
        hall.reference(0, 0, 0, -1);
        Checks.due("the first can't be got", hall.enable(0, true), ServiceHall.ACTIVE);
        Checks.dueText("at most one: the next", Checks.row(hall, 0, 0), "2");
        Checks.dueText("many: the best first", Checks.row(hall, 0, 1), "2 3 4 1");
        Checks.dueText("and once more", Checks.row(hall, 0, 2), "2");
        Checks.due("each reference tried the first", hall.look(7, 3), 3);
        Checks.due("bindings", hall.count(4), 6);
        Checks.due("uses", hall.service(2, 4), 3);
    }

    private static void givesBackWhatDidNotWork() {
        ServiceHall hall = new ServiceHall();
        hall.register(0, 0);
        hall.describe(1, 1, 0, true, false);
        hall.enable(1, true);
        hall.describe(2, 2, 0, true, true);
        hall.enable(2, true);
        hall.describe(0, 3, 0, false, false);
        hall.reference(0, 0, 1, -1);
        hall.reference(0, 1, 1, -1);
        hall.reference(0, 2, 1, -1);
        Checks.due("there are targets, but one can't be got", hall.enable(0, true), ServiceHall.BROKEN);
        Checks.due("did not work", hall.look(0, 3), 1);
        Checks.due("is not counted as made INACTIVE", hall.look(0, 4), 0);
        Checks.due("two were bound", hall.count(4), 2);
        Checks.due("and given back", hall.service(0, 4) + hall.service(1, 4), 0);
        Checks.due("so the one in between was made", hall.look(1, 2), 1);
        Checks.due("made INACTIVE", hall.look(1, 4), 1);
        Checks.due("and is READY", hall.look(1, 0), ServiceHall.READY);
        Checks.due("BROKEN goes OFF", hall.enable(0, false), ServiceHall.OFF);
    }

    private static void brokenIsTriedAgain() {
        ServiceHall hall = new ServiceHall();
        hall.describe(0, -1, 0, false, true);
        hall.reference(0, 0, 0, -1);
        Checks.due("it does not work", hall.enable(0, true), ServiceHall.BROKEN);
        hall.register(1, 0);
        Checks.due("another interface does not matter", hall.look(0, 3), 1);
        hall.register(0, 0);
        Checks.due("one of its own does", hall.look(0, 3), 2);
        hall.property(1, 0, 1, false);
        Checks.due("and each property of that", hall.look(0, 3), 3);
        hall.withdraw(1);
        Checks.due("and its going", hall.look(0, 3), 4);
        hall.enable(0, false);
        Checks.component(hall, 0, -1, false, 0, 1);
        hall.describe(1, 0, 0, true, true);
        hall.enable(1, true);
        Checks.due("all that is there can't be got", hall.enable(0, true), ServiceHall.BROKEN);
        hall.enable(1, false);
        Checks.due("now nothing is there", hall.look(0, 0), ServiceHall.WAITING);
    }

    private static void stoppingReachesOthers() {
        ServiceHall hall = new ServiceHall();
        hall.describe(1, 1, 0, true, false);
        hall.describe(2, 2, 0, true, false);
        hall.enable(1, true);
        hall.enable(2, true);
        hall.describe(0, 0, 0, false, false);
        hall.reference(0, 1, 1, -1);
        hall.reference(0, 2, 1, -1);
        Checks.component(hall, 3, -1, false, 0, 1);
        hall.enable(3, true);
        Checks.due("all are there", hall.enable(0, true), ServiceHall.ACTIVE);
        Checks.due("four of them", hall.count(3), 4);
        Checks.due("off", hall.enable(0, false), ServiceHall.OFF);
        Checks.due("what it had asked for is READY", hall.look(1, 0) + hall.look(2, 0), 2 * ServiceHall.READY);
        Checks.due("what asked for it waits", hall.look(3, 0), ServiceHall.WAITING);
        Checks.due("and has given back", hall.service(2, 4), 0);
        Checks.due("its service is gone", hall.service(2, 0), 0);
    }

    private static void readyIsStopped() {
        ServiceHall hall = new ServiceHall();
        Checks.component(hall, 0, 1, true, 0, 1 + 4);
        hall.register(0, 0);
        Checks.due("READY", hall.enable(0, true), ServiceHall.READY);
        Checks.due("its service is there", hall.look(0, 1), 1);
        hall.register(0, 1);
        hall.withdraw(0);
        Checks.due("another target will do", hall.look(0, 1), 1);
        hall.withdraw(2);
        Checks.due("without one it waits", hall.look(0, 0), ServiceHall.WAITING);
        Checks.due("its service is gone", hall.service(1, 0), 0);
        Checks.due("it was never made", hall.look(0, 2) + hall.look(0, 4), 0);
    }

    private static void runsOutOfNumbers() {
        ServiceHall hall = new ServiceHall();
        for (int s = 0; s < 49; s++) {
            hall.register(0, 0);
        }
        hall.describe(0, 1, 0, true, false);
        hall.describe(1, 1, 0, false, false);
        hall.reference(1, 0, 2, -1);
        hall.describe(2, 1, 0, true, false);
        hall.describe(3, -1, 0, false, false);
        Checks.due("the last number", hall.enable(0, true), ServiceHall.READY);
        Checks.due("none left", hall.enable(1, true), ServiceHall.BROKEN);
        Checks.due("it was ACTIVE", hall.look(1, 2), 1);
        Checks.due("and made INACTIVE", hall.look(1, 4), 1);
        Checks.due("which is not that it did not work", hall.look(1, 3), 0);
        Checks.due("it has bound all", hall.count(4), 49);
        Checks.due("and given back all", hall.look(1, 6) + hall.service(0, 4) + hall.service(48, 4), 0);
        Checks.due("none left for a delayed one", hall.enable(2, true), ServiceHall.BROKEN);
        Checks.due("which was never ACTIVE", hall.look(2, 2) + hall.look(2, 3) + hall.look(2, 4), 0);
        Checks.due("one that provides nothing needs none", hall.enable(3, true), ServiceHall.ACTIVE);
        Checks.due("services", hall.count(0), 50);
    }

    /** Each restart of one restarts the other, until the numbers run out: the call ends all the same. */
    private static void componentsInCircles() {
        ServiceHall hall = new ServiceHall();
        Checks.component(hall, 0, 0, false, 1, 8);
        Checks.component(hall, 1, 1, false, 0, 1);
        hall.enable(0, true);
        Checks.due("how it stands when the notes are worked off", hall.enable(1, true), ServiceHall.WAITING);
        Checks.due("the other one", hall.look(0, 0), ServiceHall.BROKEN);
        Checks.due("each service has come and gone", hall.count(2), 100);
        Checks.due("none is there", hall.count(1), 0);
    }
}
