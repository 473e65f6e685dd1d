/** Promise 1: "a call that throws changes nothing, but filter the text, and get what ACTIVATING did". */
public final class RefusedCallTest {
    public static void main(String[] args) {
        changesNothing();
        registerInAFullOneChangesNothing();
        describeLeavesTheDescription();
        referenceLeavesTheReferences();
        propertyLeavesTheValues();
        filterChangesTheTextAlone();
        filterLeavesTheOldOne();
        getLeavesWhatActivatingDid();
        Checks.end();
    }

    /** Components 0 to 4 are OFF, WAITING, READY, ACTIVE and BROKEN; service 1 is gone; a filter is half written. */
    private static Hall inFullUse() {
        Hall hall = new Hall();
        Checks.setFilter(hall, 1, "(b>=1)");
        hall.property(hall.register(0, 3), 1, 1.5, false);
        hall.withdraw(hall.register(0, 4));
        Checks.component(hall, 0, 1, false, 0, 1);
        Checks.component(hall, 1, 2, false, 5, 1);
        hall.describe(2, 2, -7, true, false);
        hall.reference(2, 0, 1 + 4, 1);
        Checks.component(hall, 3, 3, false, 0, 2 + 4);
        hall.describe(4, 4, 0, false, true);
        for (int c = 1; c <= 4; c++) {
            Checks.due("how component " + c + " stands", hall.enable(c, true), c);
        }
        hall.get(0);
        Checks.write(hall, "(a=1");
        return hall;
    }

    private static void changesNothing() {
        Hall hall = inFullUse();
        Checks.refused(hall, Checks.ARGUMENT, "text", () -> hall.text(0));
        Checks.refused(hall, Checks.ARGUMENT, "register", () -> hall.register(6, 9));
        Checks.refused(hall, Checks.ELEMENT, "withdraw what is gone", () -> hall.withdraw(1));
        Checks.refused(hall, Checks.ELEMENT, "withdraw a component's", () -> hall.withdraw(2));
        Checks.refused(hall, Checks.ELEMENT, "property of a component's", () -> hall.property(3, 0, 1, false));
        Checks.refused(hall, Checks.ARGUMENT, "property", () -> hall.property(0, 6, 1, false));
        for (int n = 1; n <= 4; n++) {
            int c = n;
            Checks.refused(hall, Checks.STATE, "describe " + c, () -> hall.describe(c, 5, 9, false, false));
            Checks.refused(hall, Checks.STATE, "reference " + c, () -> hall.reference(c, 1, 15, -1));
        }
        Checks.refused(hall, Checks.ARGUMENT, "enable", () -> hall.enable(8, true));
        Checks.refused(hall, Checks.ARGUMENT, "enable off", () -> hall.enable(-1, false));
        Checks.refused(hall, Checks.ELEMENT, "get what is gone", () -> hall.get(1));
        Checks.refused(hall, Checks.ELEMENT, "unget what was not got", () -> hall.unget(2));
        Checks.refused(hall, Checks.ELEMENT, "best", () -> hall.best(5, -1));
        Checks.refused(hall, Checks.ELEMENT, "value", () -> hall.value(0, 0));
        Checks.refused(hall, Checks.INDEX, "bound", () -> hall.bound(3, 0, 1));
        Checks.refused(hall, Checks.ARGUMENT, "look", () -> hall.look(3, 9));
        Checks.refused(hall, Checks.ARGUMENT, "service", () -> hall.service(0, 5));
        Checks.refused(hall, Checks.ARGUMENT, "count", () -> hall.count(6));
    }

    private static void registerInAFullOneChangesNothing() {
        Hall hall = inFullUse();
        Checks.register(hall, 50 - hall.count(0), 4);
        Checks.refused(hall, Checks.INDEX, "register", () -> hall.register(0, 9));
    }

    private static void describeLeavesTheDescription() {
        Hall hall = new Hall();
        hall.describe(0, 3, 7, true, true);
        hall.reference(0, 2, 0, -1);
        Checks.refused(hall, Checks.ARGUMENT, "describe", () -> hall.describe(0, 6, 8, false, false));
        Checks.due("it is delayed still", hall.enable(0, true), ServiceHall.READY);
        Checks.dueText("provides the same with the same rank", hall.told(0), "1 3 7 0 0");
        Checks.refused(hall, Checks.STATE, "describe", () -> hall.describe(0, 1, 8, false, false));
        Checks.thrown(Checks.STATE, "it fails still", () -> hall.get(0));
        Checks.due("and has its reference", hall.look(0, 5), 1);
    }

    private static void referenceLeavesTheReferences() {
        Hall hall = new Hall();
        Checks.component(hall, 0, -1, false, 0, 2);
        hall.reference(0, 1, 2 + 4, -1);
        hall.reference(0, 2, 0, -1);
        Checks.refused(hall, Checks.INDEX, "a fourth", () -> hall.reference(0, 3, 1, -1));
        hall.register(2, 0);
        Checks.due("it does not wait for the fourth", hall.enable(0, true), ServiceHall.ACTIVE);
        Checks.due("the third is as it was", hall.bound(0, 2, 0), 0);
        Checks.refused(hall, Checks.STATE, "one for an ACTIVE one", () -> hall.reference(0, 1, 1, -1));
        hall.register(1, 0);
        Checks.due("the second is as it was", hall.bound(0, 1, 0), 1);
    }

    private static void propertyLeavesTheValues() {
        Hall hall = new Hall();
        hall.register(0, 0);
        hall.property(0, 5, 2.5, false);
        hall.withdraw(0);
        Checks.refused(hall, Checks.ELEMENT, "set, but gone", () -> hall.property(0, 5, 3.5, false));
        Checks.refused(hall, Checks.ELEMENT, "none, but gone", () -> hall.property(0, 5, 3.5, true));
        Checks.due("the value of before", hall.value(0, 5), 2.5);
    }

    /** "and empty then, whatever comes" */
    private static void filterChangesTheTextAlone() {
        filterThrows(Checks.ARGUMENT, -1, "(a=1)");
        filterThrows(Checks.ARGUMENT, 6, "(a=1)");
        filterThrows(Checks.ARGUMENT, 0, "(a=1");
        filterThrows(Checks.ARGUMENT, 1, "(a=1");
        filterThrows(Checks.STATE, 1, "(a=1)");
    }

    private static void filterThrows(Class<? extends RuntimeException> due, int f, String text) {
        Hall hall = inFullUse();
        if (text.endsWith(")")) {
            hall.text(')');
        }
        String before = hall.shownButText();
        Checks.due("letters before", hall.count(5), text.length());
        Checks.thrown(due, "filter " + f + " " + text, () -> hall.filter(f));
        Checks.due("letters behind it", hall.count(5), 0);
        Checks.sameAs(before, "nothing else changes", hall.shownButText());
        Checks.due("the next text begins anew", Checks.setFilter(hall, 5, "(&(c=1)(d=1))"), 2);
    }

    private static void filterLeavesTheOldOne() {
        Hall hall = new Hall();
        hall.property(hall.register(0, 0), 0, 1, false);
        Checks.setFilter(hall, 0, "(a=1)");
        Checks.noFilter(hall, Checks.ARGUMENT, 0, "(&(b=1)(c=1)");
        Checks.due("the old one still holds", hall.best(0, 0), 0);
        hall.reference(0, 0, 1, 0);
        hall.enable(0, true);
        Checks.noFilter(hall, Checks.STATE, 0, "(a=2)");
        Checks.due("and still", hall.best(0, 0), 0);
        hall.property(0, 1, 7, false);
        Checks.due("the component has it too", hall.look(0, 0), ServiceHall.ACTIVE);
    }

    /** Component 2 binds all it can get before it is seen that it does not work. */
    private static void getLeavesWhatActivatingDid() {
        Hall hall = new Hall();
        hall.register(0, 0);
        hall.describe(1, 1, 0, true, false);
        hall.enable(1, true);
        hall.describe(2, 2, 0, true, true);
        hall.reference(2, 0, 1, -1);
        hall.reference(2, 1, 1, -1);
        hall.enable(2, true);
        Checks.thrown(Checks.STATE, "it FAILS", () -> hall.get(2));
        Checks.dueText("it stays READY, and did not work once", hall.looks(2), "2 2 0 1 0 2 0 0 0");
        Checks.dueText("the one it had got was ACTIVE, and is READY", hall.looks(1), "2 1 1 0 1 0 0 0 0");
        Checks.dueText("two bindings, no notes", hall.counts(), "3 3 3 0 2 0");
        for (int s = 0; s < 3; s++) {
            Checks.due("no uses are left of service " + s, hall.service(s, 4), 0);
        }
        Checks.refused(hall, Checks.ELEMENT, "so it can't be given back", () -> hall.unget(2));
        Checks.thrown(Checks.STATE, "once more", () -> hall.get(2));
        Checks.due("did not work twice", hall.look(2, 3), 2);
        Checks.due("four bindings", hall.count(4), 4);
    }
}
