/** Terms: in which order notes are worked off, and how things stand when each comes to be worked off. */
public final class NoteOrderTest {
    public static void main(String[] args) {
        theOldestFirst();
        componentZeroFirst();
        waitingIsCheckedByItsOwnInterfaces();
        readyIsStoppedByWhateverNote();
        offBeforeItsOwnNote();
        asLongAsItIsActive();
        Checks.end();
    }

    /** The notes of services 1 and 2 come in this order, and so do the numbers of those who waited for them. */
    private static void theOldestFirst() {
        Hall hall = new Hall();
        Checks.component(hall, 0, 4, false, 2, 1);
        Checks.component(hall, 1, 1, false, 0, 1);
        Checks.component(hall, 2, 2, false, 0, 1);
        Checks.component(hall, 3, 5, false, 1, 1);
        for (int c = 0; c < 4; c++) {
            hall.enable(c, true);
        }
        Checks.due("all wait for it", hall.register(0, 0), 0);
        Checks.due("of the first note", hall.look(3, 1), 3);
        Checks.due("of the second", hall.look(0, 1), 4);
        Checks.due("notes", hall.count(2), 5);
    }

    private static void componentZeroFirst() {
        Hall hall = new Hall();
        for (int c = 7; c >= 0; c--) {
            Checks.component(hall, c, 1, false, 0, 1);
            hall.enable(c, true);
        }
        hall.register(0, 0);
        for (int c = 0; c < 8; c++) {
            Checks.due("the service of " + c, hall.look(c, 1), c + 1);
        }
    }

    /** What component 0 waits for is there when the note of another interface is worked off: that does not wake it. */
    private static void waitingIsCheckedByItsOwnInterfaces() {
        Hall hall = new Hall();
        Checks.component(hall, 0, 4, false, 2, 1);
        Checks.component(hall, 1, 5, false, 1, 1);
        Checks.component(hall, 2, 1, false, 0, 1);
        Checks.component(hall, 3, 2, false, 0, 1);
        for (int c = 0; c < 4; c++) {
            hall.enable(c, true);
        }
        hall.register(0, 0);
        Checks.due("woken by the note of service 1", hall.look(1, 1), 3);
        Checks.due("woken by the note of service 2 alone", hall.look(0, 1), 4);
    }

    /** Component 0 lacks its target already when a note of another interface comes: it goes before 3 is checked. */
    private static void readyIsStoppedByWhateverNote() {
        Hall hall = new Hall();
        Checks.component(hall, 0, 3, true, 2, 1);
        Checks.component(hall, 1, 1, false, 0, 1);
        Checks.component(hall, 2, 2, false, 0, 1);
        hall.describe(3, -1, 0, false, true);
        hall.reference(3, 1, 0, -1);
        hall.reference(3, 3, 1, -1);
        hall.register(0, 0);
        for (int c : new int[] {1, 2, 0, 3}) {
            hall.enable(c, true);
        }
        Checks.due("READY, since its target is there", hall.look(0, 0), ServiceHall.READY);
        Checks.due("what fails has tried it", hall.look(0, 2), 1);
        hall.withdraw(0);
        Checks.dueText("stopped, and not tried in vain before", hall.looks(0), "1 -1 1 0 1 1 0 0 0");
        Checks.dueText("what fails finds no target, and waits", hall.looks(3), "1 -1 0 1 0 2 0 0 0");
    }

    /** It provides what it refers to: were it WAITING when its own service's note comes, it would be made once more. */
    private static void offBeforeItsOwnNote() {
        Hall hall = new Hall();
        Checks.component(hall, 0, 1, false, 1, 0);
        Checks.due("on", hall.enable(0, true), ServiceHall.ACTIVE);
        Checks.due("off", hall.enable(0, false), ServiceHall.OFF);
        Checks.dueText("made once", hall.looks(0), "0 -1 1 0 1 1 0 0 0");
        Checks.dueText("its service has come and gone", hall.counts(), "1 0 2 0 0 0");
    }

    /**
     * Component 0 and the delayed component 1 have one another. The better one that comes takes the place of 1's
     * service, so 1 goes, and 0 with it: its second reference is not looked at any more.
     */
    private static void asLongAsItIsActive() {
        Hall hall = new Hall();
        hall.describe(0, 1, 0, true, false);
        hall.reference(0, 2, 4 + 8, -1);
        hall.reference(0, 2, 2 + 4, -1);
        Checks.component(hall, 1, 2, true, 1, 0);
        hall.register(2, 0);
        hall.enable(0, true);
        hall.enable(1, true);
        hall.get(2);
        hall.withdraw(0);
        hall.unget(2);
        Checks.dueText("the first reference has the other's service", hall.looks(0), "3 1 1 0 0 2 1 0 0");
        Checks.dueText("and the other has its", hall.looks(1), "3 2 1 0 0 1 1 0 0");
        Checks.due("what is better comes", hall.register(2, 9), 3);
        Checks.dueText("READY, with nothing bound", hall.looks(0), "2 1 1 0 1 2 0 0 0");
        Checks.dueText("the other too", hall.looks(1), "2 2 1 0 1 1 0 0 0");
        Checks.due("what came was given back", hall.service(3, 4), 0);
    }
}
