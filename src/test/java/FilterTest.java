import java.util.NoSuchElementException;

/** Promise 3, and what FILTERS are. */
public final class FilterTest {
    private static final String[] NO_FILTERS = {
        "(", ")", "()", "(a)", "(a=)", "a=1", "(a=1", "a=1)", "(a=1))", "(a=1)(b=1)", "((a=1))", "(&)", "(|)", "(!)",
        "(&a=1)", "(&(a=1)", "(!(a=1)(b=1))", "(!(a=1)", "(&(a=1)b=1)", "(&&(a=1))", "(&(a=1)!(b=1))",
        "(g=1)", "(A=1)", "(`=1)", "(aa=1)", "(1=a)", "(a<1)", "(a>1)", "(a==1)", "(a=<1)", "(a=>1)", "(a!=1)",
        "(a<=*)", "(a>=*)", "(a=**)", "(a=*1)", "(a=1*)", "(a=-*)", "(a=-)", "(a=--1)", "(a=+1)", "(a=1-)",
        "(a=12345)", "(a=00001)", "(a=1.)", "(a=.5)", "(a=-.5)", "(a=1.2345)", "(a=1.2.3)", "(a=1.-2)", "(a=1e3)",
        "(a=1,5)", "(&(a=1)(&))", "(a=1)x", "x(a=1)", "(&(&(&(&(&(&(&(&(&(&(&(&(&(&(&(&", "((((((((((((((((",
        "))))", "(!(!(!(!(!(!(!(!(!(!(!(!(!(!(!(!", "(&(b)", "(&(a=1)(b)", "(|(a=)", "(!(a)",
        "(&(a=1)(a=1)(a=1)(a=1)(a=100.5)(", "(&(a=1)(a=1)(a=1)(a=1)(a=1)(a=10", "(&(a=1)(a=1)(a=1)(a=1)(a=1)(a<=-",
        "(&(a=1)(a=1)(a=1)(a=1)(a=10.25)&", "(&(a=1)(a=1)(a=1)(a=1)(a=1)(a=1)"};

    public static void main(String[] args) {
        countsComparisons();
        refusesWhatIsNone();
        emptiesTheTextWhateverComes();
        keepsTheOldOne();
        isRefusedWhileInUse();
        compares();
        joins();
        Checks.end();
    }

    private static void countsComparisons() {
        ServiceHall hall = new ServiceHall();
        Checks.due("(a=1)", Checks.setFilter(hall, 0, "(a=1)"), 1);
        Checks.due("(f=*)", Checks.setFilter(hall, 5, "(f=*)"), 1);
        Checks.due("(&(a=1))", Checks.setFilter(hall, 0, "(&(a=1))"), 1);
        Checks.due("(|(a=1)(b<=2)(c>=3)(d=*))", Checks.setFilter(hall, 1, "(|(a=1)(b<=2)(c>=3)(d=*))"), 4);
        Checks.due("five of them", Checks.setFilter(hall, 1, "(&(a=1)(b=1)(c=1)(d=1)(e=1))"), 5);
        Checks.due("nine deep, 32 letters", Checks.setFilter(hall, 2, "(!(!(!(!(!(!(!(!(!(a=1))))))))))"), 1);
        Checks.due("a long number", Checks.setFilter(hall, 3, "(a>=-1234.567)"), 1);
    }

    private static void refusesWhatIsNone() {
        ServiceHall hall = new ServiceHall();
        Checks.refused(hall, IllegalArgumentException.class, "no text", () -> hall.filter(0));
        for (String text : NO_FILTERS) {
            Checks.noFilter(hall, IllegalArgumentException.class, text, 0, text);
        }
        for (int f : new int[] {-1, 6, Integer.MIN_VALUE, Integer.MAX_VALUE}) {
            Checks.noFilter(hall, IllegalArgumentException.class, "filter " + f, f, "(a=1)");
        }
    }

    private static void emptiesTheTextWhateverComes() {
        ServiceHall hall = new ServiceHall();
        Checks.setFilter(hall, 0, "(a=1)");
        Checks.due("behind one that is set", hall.count(5), 0);
        Checks.thrown(IllegalArgumentException.class, "wrong text", () -> Checks.setFilter(hall, 0, "(a=1"));
        Checks.due("behind a wrong text", hall.count(5), 0);
        Checks.thrown(IllegalArgumentException.class, "wrong number", () -> Checks.setFilter(hall, 6, "(a=1)"));
        Checks.due("behind a wrong number", hall.count(5), 0);
        hall.reference(0, 0, 0, 0);
        hall.enable(0, true);
        Checks.thrown(IllegalStateException.class, "in use", () -> Checks.setFilter(hall, 0, "(a=2)"));
        Checks.due("behind one in use", hall.count(5), 0);
    }

    private static void keepsTheOldOne() {
        ServiceHall hall = new ServiceHall();
        hall.property(hall.register(0, 0), 0, 1, false);
        Checks.setFilter(hall, 0, "(a=1)");
        Checks.noFilter(hall, IllegalArgumentException.class, "no filter", 0, "(&(b=1)(c=1)");
        Checks.due("the old one still holds", hall.best(0, 0), 0);
        Checks.setFilter(hall, 0, "(a=2)");
        Checks.refused(hall, NoSuchElementException.class, "the new one does not", () -> hall.best(0, 0));
        Checks.setFilter(hall, 1, "(a=1)");
        Checks.due("another one holds", hall.best(0, 1), 0);
        Checks.refused(hall, NoSuchElementException.class, "and the first is as before", () -> hall.best(0, 0));
    }

    private static void isRefusedWhileInUse() {
        ServiceHall hall = new ServiceHall();
        Checks.setFilter(hall, 2, "(a=1)");
        Checks.setFilter(hall, 3, "(a=1)");
        hall.describe(7, 1, 0, false, false);
        hall.reference(7, 0, 0, -1);
        hall.reference(7, 0, 0, -1);
        hall.reference(7, 0, 1, 2);
        hall.reference(6, 0, 1, 2);
        hall.describe(6, -1, 0, false, false);
        hall.enable(6, true);
        Checks.due("an OFF one has it", Checks.setFilter(hall, 2, "(a>=1)"), 1);
        Checks.due("WAITING", hall.enable(7, true), ServiceHall.WAITING);
        Checks.noFilter(hall, IllegalStateException.class, "a WAITING one has it", 2, "(a=2)");
        Checks.noFilter(hall, IllegalArgumentException.class, "the text comes first", 2, "(a2)");
        Checks.due("another one", Checks.setFilter(hall, 3, "(a=3)"), 1);
        hall.property(hall.register(0, 0), 0, 5, false);
        Checks.due("what was set while it was OFF counts", hall.look(7, 0), ServiceHall.ACTIVE);
        Checks.noFilter(hall, IllegalStateException.class, "an ACTIVE one has it", 2, "(a=2)");
        hall.enable(7, false);
        Checks.due("OFF again", Checks.setFilter(hall, 2, "(a=2)"), 1);
        hall.enable(7, true);
        hall.enable(7, false);
        hall.describe(7, 1, 0, false, false);
        hall.enable(7, true);
        Checks.due("described anew it has none", Checks.setFilter(hall, 2, "(a=1)"), 1);
    }

    private static void compares() {
        holds("(a=1)", 1, true);
        holds("(a=1)", 1.0000001, false);
        holds("(a=*)", -7, true);
        holds("(a<=2.5)", 2.5, true);
        holds("(a<=2.5)", 2.4999, true);
        holds("(a<=2.5)", 2.5001, false);
        holds("(a>=2.5)", 2.5, true);
        holds("(a>=2.5)", 2.4999, false);
        holds("(a>=2.5)", 2.5001, true);
        holds("(a=-0.125)", -0.125, true);
        holds("(a=-0.125)", 0.125, false);
        holds("(a=-0)", 0, true);
        holds("(a=0)", -0.0, true);
        holds("(a=0.1)", 0.1, true);
        holds("(a=0.07)", 7.0 / 100, true);
        holds("(a=1.005)", 1005.0 / 1000, true);
        holds("(a=1.50)", 1.5, true);
        holds("(a=0012)", 12, true);
        holds("(a=9999.999)", 9999999.0 / 1000, true);
        holds("(a<=-9999.999)", -10000, true);
        holds("(a>=-9999.999)", -10000, false);
        holds("(b=0)", 0, false);
        holds("(b<=0)", 0, false);
        holds("(b>=0)", 0, false);
        holds("(b=*)", 0, false);
        holds("(a=*)", Double.NaN, true);
        holds("(|(a<=0)(a>=0)(a=0))", Double.NaN, false);
        holds("(a>=9999)", Double.POSITIVE_INFINITY, true);
    }

    private static void joins() {
        holds("(&(a=1)(a>=1)(a<=1))", 1, true);
        holds("(&(a=1)(a>=2)(a<=1))", 1, false);
        holds("(&(a=2)(a=1))", 1, false);
        holds("(|(a=2)(a=1))", 1, true);
        holds("(|(a=1)(a=2))", 1, true);
        holds("(|(a=3)(a=2))", 1, false);
        holds("(!(a=1))", 1, false);
        holds("(!(a=2))", 1, true);
        holds("(!(b=1))", 1, true);
        holds("(&(!(b=*))(|(a=5)(a=1)))", 1, true);
        holds("(|(&(a=1)(b=*))(!(a=*)))", 1, false);
        holds("(!(&(a=1)(!(|(a=2)(a=1)))))", 1, true);
        holds("(!(!(!(!(!(!(!(!(!(a=1))))))))))", 1, false);
        holds("(!(!(!(!(!(!(!(!(a=1)))))))))", 1, true);
    }

    /** Of a service whose one property, a, is this. */
    private static void holds(String filter, double a, boolean due) {
        ServiceHall hall = new ServiceHall();
        hall.property(hall.register(3, 0), 0, a, false);
        Checks.setFilter(hall, 4, filter);
        if (due) {
            Checks.due(filter + " for a = " + a, hall.best(3, 4), 0);
        } else {
            Checks.refused(hall, NoSuchElementException.class, filter + " for a = " + a, () -> hall.best(3, 4));
        }
    }
}
