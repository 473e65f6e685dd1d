/** Promise 3. What a FILTER's text may be stands in FilterWordsTest, what it means in FilterTruthTest. */
public final class FilterTest {
    public static void main(String[] args) {
        setsEachOfSix();
        refusesOtherNumbers();
        countsComparisons();
        emptiesTheTextWhateverComes();
        takesThePlaceOfTheOldOne();
        isRefusedWhileOneThatIsNotOffHasIt();
        isTakenWhileOneThatIsOffHasIt();
        isLookedForInEachReference();
        Checks.end();
    }

    /** Filter f asks for the property of the same number, so each must be its own. */
    private static void setsEachOfSix() {
        Hall hall = new Hall();
        for (int f = 0; f < 6; f++) {
            Checks.due("filter " + f, Checks.setFilter(hall, f, "(" + (char) ('a' + f) + "=1)"), 1);
        }
        for (int f = 0; f < 6; f++) {
            hall.property(hall.register(0, 0), f, 1, false);
            Checks.due("by filter " + f, hall.best(0, f), f);
        }
    }

    private static void refusesOtherNumbers() {
        Hall hall = new Hall();
        for (int f : Checks.outside(0, 5)) {
            Checks.noFilter(hall, Checks.ARGUMENT, f, "(a=1)");
            Checks.refused(hall, Checks.ARGUMENT, "filter " + f + " without a text", () -> hall.filter(f));
        }
    }

    private static void countsComparisons() {
        Hall hall = new Hall();
        Checks.due("=", Checks.setFilter(hall, 0, "(a=1)"), 1);
        Checks.due("<=", Checks.setFilter(hall, 0, "(a<=1)"), 1);
        Checks.due(">=", Checks.setFilter(hall, 0, "(a>=1)"), 1);
        Checks.due("=*", Checks.setFilter(hall, 5, "(f=*)"), 1);
        Checks.due("& and ! are none", Checks.setFilter(hall, 0, "(&(!(a=1)))"), 1);
        Checks.due("four", Checks.setFilter(hall, 1, "(|(a=1)(b<=2)(c>=3)(d=*))"), 4);
        Checks.due("in two levels", Checks.setFilter(hall, 1, "(|(&(a=1)(b=1))(!(c=1))(d=1))"), 4);
        Checks.due("the same one twice", Checks.setFilter(hall, 1, "(&(a=1)(a=1))"), 2);
        Checks.due("as many as 32 letters hold", Checks.setFilter(hall, 1, "(&(a=1)(b=1)(c=1)(d=1)(e=1))"), 5);
        Checks.due("one, nine deep", Checks.setFilter(hall, 2, "(!(!(!(!(!(!(!(!(!(a=1))))))))))"), 1);
    }

    private static void emptiesTheTextWhateverComes() {
        Hall hall = new Hall();
        Checks.setFilter(hall, 0, "(a=1)");
        Checks.due("behind one that is set", hall.count(5), 0);
        Checks.refused(hall, Checks.ARGUMENT, "so there is none for another", () -> hall.filter(1));
        Checks.thrown(Checks.ARGUMENT, "wrong text", () -> Checks.setFilter(hall, 0, "(a=1"));
        Checks.due("behind a wrong text", hall.count(5), 0);
        Checks.thrown(Checks.ARGUMENT, "wrong number", () -> Checks.setFilter(hall, 6, "(a=1)"));
        Checks.due("behind a wrong number", hall.count(5), 0);
        hall.reference(0, 0, 0, 0);
        hall.enable(0, true);
        Checks.thrown(Checks.STATE, "in use", () -> Checks.setFilter(hall, 0, "(a=2)"));
        Checks.due("behind one in use", hall.count(5), 0);
    }

    private static void takesThePlaceOfTheOldOne() {
        Hall hall = new Hall();
        hall.property(hall.register(0, 0), 0, 1, false);
        Checks.setFilter(hall, 0, "(&(a=1)(!(b=1)))");
        Checks.due("the first holds", hall.best(0, 0), 0);
        Checks.setFilter(hall, 0, "(a=2)");
        Checks.refused(hall, Checks.ELEMENT, "the new one does not", () -> hall.best(0, 0));
        Checks.setFilter(hall, 1, "(a=1)");
        Checks.due("another one holds", hall.best(0, 1), 0);
        Checks.refused(hall, Checks.ELEMENT, "and the first is as before", () -> hall.best(0, 0));
    }

    /** Each way to stand but OFF; the components are 4, 5, 6 and 7. */
    private static void isRefusedWhileOneThatIsNotOffHasIt() {
        Hall hall = new Hall();
        for (int f = 0; f < 5; f++) {
            Checks.setFilter(hall, f, "(!(a=1))");
        }
        hall.describe(4, -1, 0, false, false);
        hall.reference(4, 0, 1, 0);
        hall.describe(5, 1, 0, true, false);
        hall.reference(5, 0, 0, 1);
        hall.reference(6, 0, 0, 2);
        hall.describe(7, -1, 0, false, true);
        hall.reference(7, 0, 0, 3);
        int[] due = {ServiceHall.WAITING, ServiceHall.READY, ServiceHall.ACTIVE, ServiceHall.BROKEN};
        for (int n = 0; n < 4; n++) {
            Checks.due("how it stands", hall.enable(4 + n, true), due[n]);
            Checks.noFilter(hall, Checks.STATE, n, "(a=2)");
        }
        Checks.due("one that nobody has", Checks.setFilter(hall, 4, "(a=3)"), 1);
        Checks.due("nor ever had", Checks.setFilter(hall, 5, "(a=3)"), 1);
        for (int n = 0; n < 4; n++) {
            hall.enable(4 + n, false);
            Checks.due("OFF again", Checks.setFilter(hall, n, "(a=2)"), 1);
        }
    }

    private static void isTakenWhileOneThatIsOffHasIt() {
        Hall hall = new Hall();
        Checks.setFilter(hall, 2, "(a=1)");
        hall.reference(0, 0, 1, 2);
        Checks.due("it has it, but is OFF", Checks.setFilter(hall, 2, "(a>=5)"), 1);
        hall.enable(0, true);
        hall.property(hall.register(0, 0), 0, 1, false);
        Checks.due("it waits for what was set since", hall.look(0, 0), ServiceHall.WAITING);
        hall.property(0, 0, 5, false);
        Checks.due("which is there now", hall.look(0, 0), ServiceHall.ACTIVE);
        hall.enable(0, false);
        hall.describe(0, -1, 0, false, false);
        hall.enable(0, true);
        Checks.due("described anew it has it no more", Checks.setFilter(hall, 2, "(a=1)"), 1);
    }

    private static void isLookedForInEachReference() {
        for (int r = 0; r < 3; r++) {
            Hall hall = new Hall();
            Checks.setFilter(hall, 5, "(a=1)");
            for (int n = 0; n < 3; n++) {
                hall.reference(7, 0, 0, n == r ? 5 : -1);
            }
            hall.enable(7, true);
            Checks.noFilter(hall, Checks.STATE, 5, "(a=2)");
            Checks.due("not so another", Checks.setFilter(hall, 0, "(a=2)"), 1);
        }
    }
}
