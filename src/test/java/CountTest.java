/** Promise 17. */
public final class CountTest {
    public static void main(String[] args) {
        countsAllThroughALife();
        countsToTheLastNumber();
        countsBindingsThatDidNotLast();
        countsLetters();
        refusesOthers();
        Checks.end();
    }

    private static void countsAllThroughALife() {
        Hall hall = new Hall();
        Checks.dueText("a new one", hall.counts(), "0 0 0 0 0 0");
        Checks.write(hall, "(a=1)(b=2)");
        hall.describe(0, 1, 0, false, false);
        hall.reference(0, 0, 1 + 2, -1);
        hall.reference(0, 0, 4 + 8, -1);
        hall.enable(0, true);
        Checks.dueText("WAITING", hall.counts(), "0 0 0 0 0 10");
        hall.register(0, 0);
        Checks.dueText("ACTIVE, with a service of its own", hall.counts(), "2 2 2 1 2 10");
        hall.register(0, 1);
        Checks.dueText("a better one is bound instead", hall.counts(), "3 3 3 1 3 10");
        hall.property(0, 0, 1, false);
        Checks.dueText("a note that changes nothing", hall.counts(), "3 3 4 1 3 10");
        hall.withdraw(0);
        Checks.dueText("made anew: one gone, its own gone, its own come", hall.counts(), "4 2 7 1 5 10");
        hall.enable(0, false);
        Checks.dueText("OFF", hall.counts(), "4 1 8 0 5 10");
        hall.get(2);
        Checks.dueText("a get is no binding", hall.counts(), "4 1 8 0 5 10");
        Checks.thrown(Checks.ARGUMENT, "two filters are none", () -> hall.filter(0));
        Checks.dueText("the text is empty", hall.counts(), "4 1 8 0 5 0");
    }

    private static void countsToTheLastNumber() {
        Hall hall = new Hall();
        for (int c = 0; c < 8; c++) {
            hall.describe(c, 0, 0, false, false);
            hall.enable(c, true);
        }
        Checks.register(hall, 42, 1);
        Checks.dueText("fifty, and eight ACTIVE", hall.counts(), "50 50 50 8 0 0");
        hall.withdraw(8);
        hall.enable(0, false);
        Checks.dueText("two are gone, one OFF", hall.counts(), "50 48 52 7 0 0");
    }

    private static void countsBindingsThatDidNotLast() {
        Hall hall = new Hall();
        Checks.register(hall, 3, 0);
        hall.describe(0, -1, 0, false, true);
        hall.reference(0, 0, 2, -1);
        hall.enable(0, true);
        Checks.dueText("bound and given back", hall.counts(), "3 3 3 0 3 0");
    }

    private static void countsLetters() {
        Hall hall = new Hall();
        for (int letters = 1; letters <= 32; letters++) {
            hall.text('(');
            Checks.due("letters", hall.count(5), letters);
        }
        Checks.thrown(Checks.INDEX, "no more", () -> hall.text('('));
        Checks.due("letters", hall.count(5), 32);
    }

    private static void refusesOthers() {
        Hall hall = new Hall();
        for (int what : Checks.outside(0, 5)) {
            Checks.refused(hall, Checks.ARGUMENT, "what " + what, () -> hall.count(what));
        }
    }
}
