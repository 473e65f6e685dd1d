/**
 * Terms: what a note of a SERVICE does to each COMPONENT. What each kind of REFERENCE does is in ReferenceTest too, and
 * the order of notes in NoteOrderTest.
 */
public final class NotesTest {
    public static void main(String[] args) {
        offIsLeftAlone();
        brokenIsTriedAgainByItsInterfaces();
        brokenIsTriedAgainByItsOwnService();
        brokenWithoutReferencesStaysSo();
        brokenMayWait();
        readyIsStopped();
        readyStaysWhileThereIsAnother();
        readyStaysWhereNoneIsNeeded();
        boundAndStillATarget();
        notBoundAndNoTarget();
        goneAndNotDynamic();
        goneAndDynamicAtMostOne();
        goneAndDynamicMany();
        goneAndNoneThatCanBeGot();
        goneAndAnotherCanBeGotMeanwhile();
        cameAndNotGreedy();
        cameAndDynamicButCannotBeGot();
        cameAndIsTheOneThatIsBound();
        cameAndGreedyButNotBetter();
        cameAndGreedyAndBetterByItsNumber();
        cameAndGreedyButCannotBeGot();
        goneAndThereAgain();
        onceStoppedIsEnough();
        goesOnWithTheNextReference();
        Checks.end();
    }

    private static void offIsLeftAlone() {
        Hall hall = new Hall();
        Checks.component(hall, 0, 1, false, 0, 1);
        hall.register(0, 0);
        Checks.dueText("OFF", hall.looks(0), "0 -1 0 0 0 1 0 0 0");
    }

    private static void brokenIsTriedAgainByItsInterfaces() {
        Hall hall = new Hall();
        hall.describe(0, -1, 0, false, true);
        for (int i : new int[] {1, 3, 5}) {
            hall.reference(0, i, 0, -1);
        }
        Checks.due("it does not work", hall.enable(0, true), ServiceHall.BROKEN);
        int tried = 1;
        for (int i = 0; i < 6; i++) {
            hall.register(i, 0);
            tried += i % 2;
            Checks.due("a service of interface " + i, hall.look(0, 3), tried);
        }
        hall.property(1, 0, 1, false);
        Checks.due("a property of one of them", hall.look(0, 3), tried + 1);
        hall.property(0, 0, 1, false);
        Checks.due("of another", hall.look(0, 3), tried + 1);
        hall.withdraw(5);
        Checks.due("the going of one of them", hall.look(0, 3), tried + 2);
        hall.withdraw(4);
        Checks.due("of another", hall.look(0, 3), tried + 2);
        Checks.due("it is BROKEN all the time", hall.look(0, 0), ServiceHall.BROKEN);
    }

    /** It refers to the interface that it provides: the going of its own service is a note of that interface too. */
    private static void brokenIsTriedAgainByItsOwnService() {
        for (int own = 0; own < 2; own++) {
            Hall hall = new Hall();
            hall.describe(0, 1, 0, false, false);
            hall.reference(0, 0, 1, -1);
            hall.reference(0, own == 1 ? 1 : 2, 0, -1);
            hall.register(0, 0);
            Checks.neverGot(hall, 7, 0, 0);
            hall.enable(0, true);
            hall.withdraw(0);
            Checks.dueText("tried when stopped, and by its own service's note", hall.looks(0),
                    own == 1 ? "4 -1 1 2 1 2 0 0 0" : "4 -1 1 1 1 2 0 0 0");
        }
    }

    private static void brokenWithoutReferencesStaysSo() {
        Hall hall = new Hall();
        hall.describe(0, -1, 0, false, true);
        hall.enable(0, true);
        for (int i = 0; i < 6; i++) {
            hall.register(i, 0);
        }
        Checks.due("it was tried once", hall.look(0, 3), 1);
    }

    private static void brokenMayWait() {
        Hall hall = new Hall();
        hall.reference(0, 0, 1, -1);
        Checks.neverGot(hall, 1, 0, 0);
        Checks.due("all that is there can't be got", hall.enable(0, true), ServiceHall.BROKEN);
        hall.enable(1, false);
        Checks.due("now nothing is there", hall.look(0, 0), ServiceHall.WAITING);
        hall.register(0, 0);
        Checks.due("now something is", hall.look(0, 0), ServiceHall.ACTIVE);
    }

    private static void readyIsStopped() {
        for (int lacking = 0; lacking < 3; lacking++) {
            Hall hall = new Hall();
            hall.describe(0, 5, 0, true, false);
            for (int r = 0; r < 3; r++) {
                hall.reference(0, r, 1 + 4, -1);
                hall.register(r, 0);
            }
            Checks.due("READY", hall.enable(0, true), ServiceHall.READY);
            hall.withdraw(lacking);
            Checks.dueText("it waits, and was never made", hall.looks(0), "1 -1 0 0 0 3 0 0 0");
            Checks.due("its service is gone", hall.service(3, 0), 0);
            hall.register(lacking, 0);
            Checks.dueText("READY again, by a new service", hall.looks(0), "2 5 0 0 0 3 0 0 0");
        }
    }

    private static void readyStaysWhileThereIsAnother() {
        Hall hall = new Hall();
        Checks.component(hall, 0, 1, true, 0, 1);
        hall.register(0, 0);
        hall.enable(0, true);
        hall.register(0, 1);
        Checks.due("a better one changes nothing", hall.look(0, 1), 1);
        hall.withdraw(0);
        Checks.due("the other one will do", hall.look(0, 1), 1);
        hall.withdraw(2);
        Checks.due("without one it waits", hall.look(0, 0), ServiceHall.WAITING);
    }

    private static void readyStaysWhereNoneIsNeeded() {
        Hall hall = new Hall();
        Checks.component(hall, 0, 1, true, 0, 2 + 8);
        hall.register(0, 0);
        hall.enable(0, true);
        hall.withdraw(0);
        hall.register(0, 0);
        Checks.dueText("READY by the same service", hall.looks(0), "2 1 0 0 0 1 0 0 0");
    }

    private static void boundAndStillATarget() {
        for (int kind = 0; kind < 16; kind++) {
            Hall hall = new Hall();
            Checks.setFilter(hall, 0, "(!(a=1))");
            hall.reference(0, 0, kind, 0);
            hall.register(0, 0);
            hall.enable(0, true);
            hall.property(0, 1, 1, false);
            Checks.dueText("kind " + kind, hall.looks(0), "3 -1 1 0 0 1 1 0 0");
            Checks.due("bound once", hall.count(4), 1);
        }
    }

    private static void notBoundAndNoTarget() {
        for (int kind = 0; kind < 16; kind += 2) {
            Hall hall = new Hall();
            Checks.setFilter(hall, 0, "(a=1)");
            hall.reference(0, 0, kind, 0);
            hall.enable(0, true);
            hall.register(0, 0);
            hall.property(0, 0, 2, false);
            hall.withdraw(0);
            Checks.dueText("kind " + kind, hall.looks(0), "3 -1 1 0 0 1 0 0 0");
        }
    }

    private static void goneAndNotDynamic() {
        Hall hall = new Hall();
        Checks.component(hall, 0, 1, false, 0, 0);
        Checks.component(hall, 1, 1, false, 0, 1);
        hall.register(0, 0);
        hall.enable(0, true);
        hall.enable(1, true);
        hall.withdraw(0);
        Checks.dueText("needs none: made anew without", hall.looks(0), "3 3 2 0 1 1 0 0 0");
        Checks.dueText("needs one: waits", hall.looks(1), "1 -1 1 0 1 1 0 0 0");
    }

    private static void goneAndDynamicAtMostOne() {
        Hall hall = new Hall();
        Checks.component(hall, 0, -1, false, 0, 4);
        Checks.component(hall, 1, -1, false, 0, 1 + 4);
        hall.register(0, 0);
        hall.enable(0, true);
        hall.enable(1, true);
        Checks.neverGot(hall, 7, 0, 8);
        hall.register(0, -1);
        hall.register(0, -2);
        int tried = hall.look(7, 3);
        hall.withdraw(0);
        Checks.dueText("the best that can be got", hall.row(0, 0) + hall.row(1, 0), "22");
        Checks.due("a better one was tried by both", hall.look(7, 3), tried + 2);
        hall.withdraw(2);
        Checks.dueText("the next", hall.row(0, 0) + hall.row(1, 0), "33");
        Checks.due("neither was made anew", hall.look(0, 2) + hall.look(1, 2), 2);
        hall.enable(7, false);
        hall.withdraw(3);
        Checks.dueText("needs none: stays", hall.looks(0), "3 -1 1 0 0 1 0 0 0");
        Checks.dueText("needs one: waits", hall.looks(1), "1 -1 1 0 1 1 0 0 0");
    }

    private static void goneAndDynamicMany() {
        Hall hall = new Hall();
        Checks.component(hall, 0, -1, false, 0, 2 + 4);
        Checks.component(hall, 1, -1, false, 0, 1 + 2 + 4);
        Checks.register(hall, 3, 0);
        hall.enable(0, true);
        hall.enable(1, true);
        hall.withdraw(1);
        Checks.dueText("the others keep their order", hall.row(0, 0) + "," + hall.row(1, 0), "0 2,0 2");
        hall.withdraw(0);
        hall.withdraw(2);
        Checks.dueText("needs none: stays", hall.looks(0), "3 -1 1 0 0 1 0 0 0");
        Checks.dueText("needs one: waits", hall.looks(1), "1 -1 1 0 1 1 0 0 0");
    }

    /** "if then none is bound, with at least 1: STOPPED, then CHECKED": there is a target still, so it is tried. */
    private static void goneAndNoneThatCanBeGot() {
        for (int kind : new int[] {1 + 4, 1 + 2 + 4}) {
            Hall hall = new Hall();
            Checks.component(hall, 0, 1, false, 0, kind);
            hall.register(0, 0);
            hall.enable(0, true);
            Checks.neverGot(hall, 7, 0, 0);
            hall.withdraw(0);
            Checks.dueText("kind " + kind, hall.looks(0), "4 -1 1 1 1 1 0 0 0");
            Checks.due("its service is gone", hall.service(1, 0), 0);
        }
    }

    /** With at most one the best that can be got is bound; MANY are not filled up, so that needs a new start. */
    private static void goneAndAnotherCanBeGotMeanwhile() {
        Hall hall = new Hall();
        int[] kinds = {4, 1 + 4, 2 + 4, 1 + 2 + 4};
        for (int c = 0; c < 4; c++) {
            Checks.component(hall, c, -1, false, 1, kinds[c]);
        }
        hall.register(1, 9);
        gotOnlyLater(hall);
        for (int c = 0; c < 4; c++) {
            hall.enable(c, true);
            Checks.dueText("only one can be got, kind " + kinds[c], hall.row(c, 0), "0");
        }
        hall.register(2, 0);
        hall.withdraw(0);
        Checks.dueText("at most one", hall.looks(0) + ", " + hall.row(0, 0), "3 -1 1 0 0 1 1 0 0, 2");
        Checks.dueText("at most one, needed", hall.looks(1) + ", " + hall.row(1, 0), "3 -1 1 0 0 1 1 0 0, 2");
        Checks.dueText("MANY", hall.looks(2), "3 -1 1 0 0 1 0 0 0");
        Checks.dueText("MANY, needed", hall.looks(3) + ", " + hall.row(3, 0), "3 -1 2 0 1 1 1 0 0, 2");
    }

    /** Service 2 of interface 1, rank 5: it is there, and can be got when a service of interface 2 from outside is. */
    private static void gotOnlyLater(Hall hall) {
        Checks.neverGot(hall, 7, 2, 0);
        hall.describe(6, 1, 5, true, false);
        hall.reference(6, 2, 1, -1);
        hall.enable(6, true);
    }

    private static void cameAndNotGreedy() {
        Hall hall = new Hall();
        for (int kind = 0; kind < 8; kind++) {
            Checks.component(hall, kind, -1, false, 0, kind);
        }
        hall.register(0, 0);
        for (int kind = 0; kind < 8; kind++) {
            hall.enable(kind, true);
        }
        hall.register(0, 9);
        for (int kind = 0; kind < 8; kind++) {
            boolean dynamicMany = kind >= 6;
            Checks.dueText("kind " + kind, hall.row(kind, 0), dynamicMany ? "0 1" : "0");
            Checks.due("none is made anew", hall.look(kind, 2), 1);
        }
    }

    private static void cameAndDynamicButCannotBeGot() {
        for (int kind : new int[] {4, 6, 12, 14}) {
            Hall hall = new Hall();
            Checks.component(hall, 0, -1, false, 0, kind);
            hall.enable(0, true);
            Checks.neverGot(hall, 7, 0, 0);
            Checks.due("kind " + kind + " has tried", hall.look(7, 3), 1);
            Checks.dueText("kind " + kind, hall.looks(0), "3 -1 1 0 0 1 0 0 0");
            Checks.due("no binding", hall.count(4), 0);
        }
    }

    /** The one that the note is of, even if a better one could be got by now. */
    private static void cameAndIsTheOneThatIsBound() {
        for (int kind : new int[] {4, 4 + 8}) {
            for (int had = 0; had < 2; had++) {
                Hall hall = new Hall();
                Checks.component(hall, 0, -1, false, 1, kind);
                hall.register(had, 0);
                gotOnlyLater(hall);
                hall.enable(0, true);
                Checks.dueText("what it has first", hall.row(0, 0), had == 1 ? "0" : "");
                hall.register(2, 0);
                hall.register(1, 1);
                boolean takes = had == 0 || kind >= 8;
                Checks.dueText("kind " + kind, hall.row(0, 0), takes ? "4" : "0");
                Checks.due("the better one is not asked", hall.look(6, 2), 0);
            }
        }
    }

    private static void cameAndGreedyButNotBetter() {
        for (int kind : new int[] {8, 9, 12, 13}) {
            Hall hall = new Hall();
            Checks.component(hall, 0, -1, false, 0, kind);
            hall.register(0, 5);
            hall.enable(0, true);
            hall.register(0, 5);
            hall.register(0, 4);
            Checks.neverGot(hall, 7, 0, 5);
            Checks.dueText("kind " + kind, hall.row(0, 0), "0");
            Checks.due("it is not made anew", hall.look(0, 2), 1);
            Checks.due("nor is what is no better tried", hall.look(7, 3), 0);
        }
    }

    private static void cameAndGreedyAndBetterByItsNumber() {
        for (int kind : new int[] {8, 9, 12, 13}) {
            boolean dynamic = kind >= 12;
            Hall hall = new Hall();
            Checks.setFilter(hall, 0, "(a=1)");
            hall.reference(0, 0, kind, 0);
            Checks.register(hall, 2, 0);
            hall.property(1, 0, 1, false);
            hall.enable(0, true);
            Checks.dueText("the only target, kind " + kind, hall.row(0, 0), "1");
            hall.property(0, 0, 1, false);
            Checks.dueText("the same rank and a lower number", hall.row(0, 0), "0");
            Checks.due("made anew if not dynamic", hall.look(0, 2), dynamic ? 1 : 2);
            Checks.due("the other one is given back", hall.service(1, 4), 0);
        }
    }

    private static void cameAndGreedyButCannotBeGot() {
        Hall hall = new Hall();
        Checks.component(hall, 0, -1, false, 0, 1 + 8);
        Checks.component(hall, 1, -1, false, 0, 1 + 4 + 8);
        hall.register(0, 0);
        hall.enable(0, true);
        hall.enable(1, true);
        Checks.neverGot(hall, 7, 0, 9);
        Checks.dueText("not dynamic: made anew with what it had", hall.looks(0), "3 -1 2 0 1 1 1 0 0");
        Checks.dueText("dynamic: has what it had", hall.looks(1), "3 -1 1 0 0 1 1 0 0");
        Checks.due("both have tried", hall.look(7, 3), 2);
        Checks.dueText("both have the same", hall.row(0, 0) + hall.row(1, 0), "00");
    }

    /** "is no more bound": what was let go is bound anew when it is a target again, from each place of the row. */
    private static void goneAndThereAgain() {
        for (int kind : new int[] {4, 6, 12, 14}) {
            boolean many = (kind & 2) != 0;
            Hall hall = new Hall();
            Checks.setFilter(hall, 0, "(!(a=1))");
            hall.reference(0, 0, kind, 0);
            Checks.register(hall, 3, 0);
            hall.enable(0, true);
            Checks.dueText("kind " + kind, hall.row(0, 0), many ? "0 1 2" : "0");
            for (int s : new int[] {2, 0, 1, 1}) {
                hall.property(s, 0, 1, false);
                hall.property(s, 0, 0, false);
            }
            Checks.dueText("kind " + kind, hall.row(0, 0), many ? "2 0 1" : "0");
            Checks.due("kind " + kind + " is the same all the time", hall.look(0, 2), 1);
            for (int s = 0; s < 3; s++) {
                Checks.due("kind " + kind + ", uses of " + s, hall.service(s, 4),
                        hall.row(0, 0).contains(String.valueOf(s)) ? 1 : 0);
            }
        }
    }

    /** "as long as it is ACTIVE and not STOPPED here" */
    private static void onceStoppedIsEnough() {
        Hall hall = new Hall();
        for (int r = 0; r < 3; r++) {
            hall.reference(0, 0, 2 + 8, -1);
        }
        hall.enable(0, true);
        hall.register(0, 0);
        Checks.dueText("made anew once, for all three", hall.looks(0), "3 -1 2 0 1 3 1 1 1");
        hall.withdraw(0);
        Checks.dueText("and once more", hall.looks(0), "3 -1 3 0 2 3 0 0 0");
    }

    private static void goesOnWithTheNextReference() {
        Hall hall = new Hall();
        hall.reference(0, 0, 2 + 4, -1);
        hall.reference(0, 1, 1, -1);
        hall.reference(0, 0, 4 + 8, -1);
        hall.register(1, 0);
        hall.enable(0, true);
        hall.register(0, 0);
        hall.register(0, 1);
        Checks.dueText("all of them", hall.row(0, 0), "1 2");
        Checks.dueText("the better one", hall.row(0, 2), "2");
        Checks.due("uses for both references", hall.service(2, 4), 2);
        hall.withdraw(2);
        Checks.dueText("what is left", hall.row(0, 0), "1");
        Checks.dueText("what is left is the best", hall.row(0, 2), "1");
        Checks.due("it was made once", hall.look(0, 2), 1);
    }
}
