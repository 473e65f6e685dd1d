/** Promise 9. What it brings about stands in ActivatingTest, CheckingTest and StoppingTest. */
public final class EnableTest {
    public static void main(String[] args) {
        takesEachOfEight();
        answersHowItStands();
        answersBehindTheNotes();
        answersBehindAHundredNotes();
        onChangesOnlyOneThatIsOff();
        offChangesOnlyOneThatIsNotOff();
        whatIsOffIsLeftAlone();
        mayBeDoneAgainAndAgain();
        Checks.end();
    }

    private static void takesEachOfEight() {
        Hall hall = new Hall();
        for (int c = 0; c < 8; c++) {
            Checks.due("on " + c, hall.enable(c, true), ServiceHall.ACTIVE);
            Checks.due("and no other", hall.count(3), c + 1);
        }
        for (int c = 0; c < 8; c++) {
            Checks.due("off " + c, hall.enable(c, false), ServiceHall.OFF);
            Checks.due("and no other", hall.count(3), 7 - c);
        }
        for (int c : Checks.outside(0, 7)) {
            Checks.refused(hall, Checks.ARGUMENT, "on " + c, () -> hall.enable(c, true));
            Checks.refused(hall, Checks.ARGUMENT, "off " + c, () -> hall.enable(c, false));
        }
    }

    private static void answersHowItStands() {
        Hall hall = new Hall();
        Checks.component(hall, 0, 1, false, 0, 1);
        hall.describe(1, 1, 0, true, false);
        hall.describe(2, 1, 0, false, false);
        hall.describe(3, 1, 0, false, true);
        int[] due = {ServiceHall.WAITING, ServiceHall.READY, ServiceHall.ACTIVE, ServiceHall.BROKEN};
        for (int c = 0; c < 4; c++) {
            Checks.due("on", hall.enable(c, true), due[c]);
            Checks.due("look says the same", hall.look(c, 0), due[c]);
        }
        for (int c = 0; c < 4; c++) {
            Checks.due("off", hall.enable(c, false), ServiceHall.OFF);
            Checks.due("look says the same", hall.look(c, 0), ServiceHall.OFF);
        }
    }

    /** Each restart of one restarts the other, until the numbers run out: the call ends all the same. */
    private static void answersBehindTheNotes() {
        Hall hall = new Hall();
        Checks.component(hall, 0, 0, false, 1, 8);
        Checks.component(hall, 1, 1, false, 0, 1);
        hall.enable(0, true);
        Checks.due("how it stands when the notes are worked off", hall.enable(1, true), ServiceHall.WAITING);
        Checks.due("the other one", hall.look(0, 0), ServiceHall.BROKEN);
        Checks.due("each service has come and gone", hall.count(2), 100);
        Checks.due("none is there", hall.count(1), 0);
    }

    /** All fifty numbers come and go in one call, which has them all noted. */
    private static void answersBehindAHundredNotes() {
        Hall hall = new Hall();
        Checks.component(hall, 0, 0, false, 1, 1);
        Checks.component(hall, 1, 1, false, 0, 8);
        hall.enable(0, true);
        Checks.due("no note before", hall.count(2), 0);
        Checks.due("it can't be made once more", hall.enable(1, true), ServiceHall.BROKEN);
        Checks.due("the other one lacks it", hall.look(0, 0), ServiceHall.WAITING);
        Checks.dueText("a hundred notes, and the last service bound twice in vain", hall.counts(), "50 0 100 0 51 0");
    }

    private static void onChangesOnlyOneThatIsOff() {
        Hall hall = new Hall();
        hall.describe(1, 1, 0, true, false);
        hall.describe(2, 1, 0, false, false);
        hall.describe(3, 1, 0, false, true);
        Checks.component(hall, 0, 1, false, 0, 1);
        for (int c = 0; c < 4; c++) {
            int stands = hall.enable(c, true);
            String before = hall.shown();
            Checks.due("on again", hall.enable(c, true), stands);
            Checks.sameAs(before, "on again", hall.shown());
        }
    }

    private static void offChangesOnlyOneThatIsNotOff() {
        Hall hall = new Hall();
        String before = hall.shown();
        Checks.due("OFF from the beginning", hall.enable(0, false), ServiceHall.OFF);
        Checks.sameAs(before, "OFF from the beginning", hall.shown());
        hall.describe(0, 1, 0, false, false);
        hall.enable(0, true);
        hall.enable(0, false);
        before = hall.shown();
        Checks.due("OFF since", hall.enable(0, false), ServiceHall.OFF);
        Checks.sameAs(before, "OFF since", hall.shown());
    }

    private static void whatIsOffIsLeftAlone() {
        Hall hall = new Hall();
        Checks.component(hall, 0, 1, false, 0, 1);
        hall.register(0, 0);
        hall.enable(0, true);
        hall.enable(0, false);
        hall.register(0, 0);
        hall.property(0, 0, 1, false);
        hall.withdraw(0);
        Checks.dueText("what comes does not wake it", hall.looks(0), "0 -1 1 0 1 1 0 0 0");
    }

    private static void mayBeDoneAgainAndAgain() {
        Hall hall = new Hall();
        Checks.component(hall, 0, 1, false, 0, 0);
        hall.register(0, 0);
        for (int n = 1; n <= 49; n++) {
            Checks.due("on", hall.enable(0, true), ServiceHall.ACTIVE);
            Checks.due("with a new service each time", hall.look(0, 1), n);
            Checks.due("off", hall.enable(0, false), ServiceHall.OFF);
        }
        Checks.due("until no number is left", hall.enable(0, true), ServiceHall.BROKEN);
        Checks.dueText("it was ACTIVE fifty times", hall.looks(0), "4 -1 50 0 50 1 0 0 0");
        Checks.due("off", hall.enable(0, false), ServiceHall.OFF);
    }
}
