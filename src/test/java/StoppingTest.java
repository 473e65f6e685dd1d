/** Terms: STOPPING, from each way to stand, and who is reached by it. */
public final class StoppingTest {
    public static void main(String[] args) {
        anActiveOne();
        anActiveOneWithoutAService();
        aDelayedOneThatIsActive();
        aReadyOne();
        aWaitingOne();
        aBrokenOne();
        reachesWhatItHadAndWhoHadIt();
        aServiceInUseStaysInUse();
        Checks.end();
    }

    private static void anActiveOne() {
        Hall hall = new Hall();
        hall.register(0, 0);
        Checks.component(hall, 0, 1, false, 0, 1);
        hall.enable(0, true);
        hall.enable(0, false);
        Checks.dueText("made INACTIVE, its service gone", hall.looks(0), "0 -1 1 0 1 1 0 0 0");
        Checks.dueText("its service is known still", hall.told(1), "0 1 0 0 0");
        Checks.dueText("which was noted", hall.counts(), "2 1 3 0 1 0");
        Checks.due("what it had is given back", hall.service(0, 4), 0);
    }

    private static void anActiveOneWithoutAService() {
        Hall hall = new Hall();
        hall.enable(0, true);
        hall.enable(0, false);
        Checks.dueText("made INACTIVE", hall.looks(0), "0 -1 1 0 1 0 0 0 0");
        Checks.dueText("nothing is noted", hall.counts(), "0 0 0 0 0 0");
    }

    private static void aDelayedOneThatIsActive() {
        Hall hall = Checks.delayedChain();
        hall.get(2);
        hall.enable(1, false);
        Checks.dueText("made INACTIVE, its service gone", hall.looks(1), "0 -1 1 0 1 1 0 0 0");
        Checks.dueText("what it had is READY", hall.looks(0), "2 1 1 0 1 1 0 0 0");
        Checks.due("somebody still has its service", hall.service(2, 4), 1);
    }

    private static void aReadyOne() {
        Hall hall = new Hall();
        hall.describe(0, 1, 0, true, false);
        hall.enable(0, true);
        hall.enable(0, false);
        Checks.dueText("its service is gone, INACTIVE it was already", hall.looks(0), "0 -1 0 0 0 0 0 0 0");
        Checks.due("its service is gone", hall.service(0, 0), 0);
        Checks.due("which was noted", hall.count(2), 2);
    }

    private static void aWaitingOne() {
        Hall hall = new Hall();
        Checks.component(hall, 0, 1, false, 0, 1);
        hall.enable(0, true);
        hall.enable(0, false);
        Checks.dueText("nothing but OFF", hall.looks(0), "0 -1 0 0 0 1 0 0 0");
        Checks.dueText("nothing is noted", hall.counts(), "0 0 0 0 0 0");
    }

    private static void aBrokenOne() {
        Hall hall = new Hall();
        hall.describe(0, 1, 0, false, true);
        hall.enable(0, true);
        hall.enable(0, false);
        Checks.dueText("nothing but OFF", hall.looks(0), "0 -1 0 1 0 0 0 0 0");
        Checks.dueText("nothing is noted", hall.counts(), "0 0 0 0 0 0");
    }

    private static void reachesWhatItHadAndWhoHadIt() {
        Hall hall = new Hall();
        hall.describe(1, 1, 0, true, false);
        hall.describe(2, 2, 0, true, false);
        hall.enable(1, true);
        hall.enable(2, true);
        hall.describe(0, 0, 0, false, false);
        hall.reference(0, 1, 1, -1);
        hall.reference(0, 2, 1, -1);
        Checks.component(hall, 3, -1, false, 0, 1);
        hall.enable(3, true);
        Checks.due("all are there", hall.enable(0, true), ServiceHall.ACTIVE);
        Checks.due("four of them", hall.count(3), 4);
        Checks.due("off", hall.enable(0, false), ServiceHall.OFF);
        Checks.due("what it had asked for is READY", hall.look(1, 0) + hall.look(2, 0), 2 * ServiceHall.READY);
        Checks.due("what asked for it waits", hall.look(3, 0), ServiceHall.WAITING);
        Checks.dueText("its service is gone, and given back", hall.told(2), "0 0 0 0 0");
    }

    private static void aServiceInUseStaysInUse() {
        Hall hall = new Hall();
        hall.describe(0, 0, 0, false, false);
        hall.enable(0, true);
        hall.get(0);
        hall.enable(0, false);
        hall.enable(0, true);
        Checks.dueText("the old one is gone, and in use", hall.told(0), "0 0 0 0 1");
        Checks.dueText("the new one is there, and is not", hall.told(1), "1 0 0 0 0");
    }
}
