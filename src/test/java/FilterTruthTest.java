/** Terms: what a FILTER is true for. */
public final class FilterTruthTest {
    private static final double[] EXACT = {
        0.1, 0.3, 0.7, 1.1, 0.07, 1.15, 2.675, 1.005, 4.35, 8.331, 9999.999, 1234.567};

    public static void main(String[] args) {
        equalIsTheVeryReal();
        atMostAndAtLeastTakeTheEnd();
        numbersAreDividedByThePowerOfTheirDigits();
        zeroHasNoSign();
        noneIsFalse();
        theStarAsksWhetherThereIsOne();
        farRealsAndNoNumber();
        allAnyAndNot();
        eachPropertyIsItsOwn();
        isAskedAnewEachTime();
        Checks.end();
    }

    /** Of a service whose one property, a, is this. */
    private static void holds(String filter, double a, boolean due) {
        Hall hall = new Hall();
        hall.property(hall.register(3, 0), 0, a, false);
        Checks.setFilter(hall, 4, filter);
        if (due) {
            Checks.due(filter + " for a = " + a, hall.best(3, 4), 0);
        } else {
            Checks.refused(hall, Checks.ELEMENT, filter + " for a = " + a, () -> hall.best(3, 4));
        }
    }

    private static void equalIsTheVeryReal() {
        holds("(a=1)", 1, true);
        holds("(a=1)", Math.nextUp(1.0), false);
        holds("(a=1)", Math.nextDown(1.0), false);
        holds("(a=1)", -1, false);
        holds("(a=-1)", -1, true);
        holds("(a=-1)", 1, false);
    }

    private static void atMostAndAtLeastTakeTheEnd() {
        holds("(a<=2.5)", 2.5, true);
        holds("(a<=2.5)", Math.nextDown(2.5), true);
        holds("(a<=2.5)", Math.nextUp(2.5), false);
        holds("(a>=2.5)", 2.5, true);
        holds("(a>=2.5)", Math.nextDown(2.5), false);
        holds("(a>=2.5)", Math.nextUp(2.5), true);
        holds("(a<=-9999.999)", -10000, true);
        holds("(a<=-9999.999)", -9999.998, false);
        holds("(a>=-9999.999)", -10000, false);
        holds("(a>=-9999.999)", -9999.998, true);
    }

    /** "the real that is those digits as a number, divided by 1, 10, 100 or 1000" */
    private static void numbersAreDividedByThePowerOfTheirDigits() {
        holds("(a=12)", 12, true);
        holds("(a=1.2)", 12.0 / 10, true);
        holds("(a=1.23)", 123.0 / 100, true);
        holds("(a=1.234)", 1234.0 / 1000, true);
        holds("(a=1.50)", 1.5, true);
        holds("(a=1.500)", 1.5, true);
        holds("(a=0012)", 12, true);
        holds("(a=0.012)", 12.0 / 1000, true);
        holds("(a=0000.000)", 0, true);
        holds("(a=9999)", 9999, true);
        holds("(a=0001.001)", 1001.0 / 1000, true);
        for (double real : EXACT) {
            holds("(a=" + real + ")", real, true);
            holds("(a=" + real + ")", Math.nextUp(real), false);
            holds("(a=" + real + ")", Math.nextDown(real), false);
            holds("(a=-" + real + ")", -real, true);
            holds("(a<=" + real + ")", real, true);
            holds("(a>=" + real + ")", real, true);
        }
    }

    private static void zeroHasNoSign() {
        holds("(a=-0)", 0.0, true);
        holds("(a=0)", -0.0, true);
        holds("(a<=-0.0)", 0.0, true);
        holds("(a>=0)", -0.0, true);
        holds("(a>=0)", -Double.MIN_VALUE, false);
        holds("(a<=0)", Double.MIN_VALUE, false);
    }

    /** "A comparison with a PROPERTY that is none is false"; the value that was there before does not count. */
    private static void noneIsFalse() {
        for (String comparison : new String[] {"(b=0)", "(b<=0)", "(b>=0)", "(b=*)", "(b<=9999)", "(b>=-9999)"}) {
            holds(comparison, 0, false);
            holds("(!" + comparison + ")", 0, true);
            holds("(&(a=0)" + comparison + ")", 0, false);
            holds("(|(a=0)" + comparison + ")", 0, true);
        }
        Hall hall = new Hall();
        Checks.setFilter(hall, 0, "(a=3)");
        hall.register(0, 0);
        hall.property(0, 0, 3, false);
        Checks.due("it is there", hall.best(0, 0), 0);
        hall.property(0, 0, 3, true);
        Checks.refused(hall, Checks.ELEMENT, "none, with a 3 that does not count", () -> hall.best(0, 0));
    }

    private static void theStarAsksWhetherThereIsOne() {
        holds("(a=*)", 0, true);
        holds("(a=*)", -7, true);
        holds("(a=*)", Double.NaN, true);
        holds("(!(a=*))", 0, false);
    }

    private static void farRealsAndNoNumber() {
        holds("(a>=9999.999)", Double.POSITIVE_INFINITY, true);
        holds("(a<=9999.999)", Double.POSITIVE_INFINITY, false);
        holds("(a<=-9999.999)", Double.NEGATIVE_INFINITY, true);
        holds("(a>=9999.999)", Double.MAX_VALUE, true);
        holds("(a=0)", Double.MIN_VALUE, false);
        holds("(|(a<=0)(a>=0)(a=0))", Double.NaN, false);
    }

    private static void allAnyAndNot() {
        holds("(&(a=1)(a>=1)(a<=1))", 1, true);
        holds("(&(a=2)(a>=1)(a<=1))", 1, false);
        holds("(&(a=1)(a>=2)(a<=1))", 1, false);
        holds("(&(a=1)(a>=1)(a<=0))", 1, false);
        holds("(|(a=1)(a=2)(a=3))", 1, true);
        holds("(|(a=2)(a=1)(a=3))", 1, true);
        holds("(|(a=3)(a=2)(a=1))", 1, true);
        holds("(|(a=3)(a=2)(a=4))", 1, false);
        holds("(&(a=1))", 1, true);
        holds("(&(a=2))", 1, false);
        holds("(|(a=1))", 1, true);
        holds("(|(a=2))", 1, false);
        holds("(!(a=1))", 1, false);
        holds("(!(a=2))", 1, true);
        holds("(&(!(b=*))(|(a=5)(a=1)))", 1, true);
        holds("(|(&(a=1)(b=*))(!(a=*)))", 1, false);
        holds("(!(&(a=1)(!(|(a=2)(a=1)))))", 1, true);
        holds("(&(|(a=1)(b=1))(a=2))", 1, false);
        holds("(|(&(a=2)(a=1))(a=1))", 1, true);
        holds("(!(!(!(!(!(!(!(!(!(a=1))))))))))", 1, false);
        holds("(!(!(!(!(!(!(!(!(a=1)))))))))", 1, true);
    }

    /** Nothing is left of what was true, or false, of another service before. */
    private static void isAskedAnewEachTime() {
        String[] filters = {"(&(a>=1)(a<=2))", "(|(a=1)(a=2))", "(!(|(a<=0)(a>=3)))", "(&(|(a=2)(a=1)))"};
        for (String filter : filters) {
            Hall hall = new Hall();
            Checks.setFilter(hall, 0, filter);
            hall.property(hall.register(0, 0), 0, 0, false);
            hall.property(hall.register(0, 9), 0, 3, false);
            for (int n = 0; n < 3; n++) {
                Checks.refused(hall, Checks.ELEMENT, filter + " for 0 and 3", () -> hall.best(0, 0));
                hall.property(0, 0, 1, false);
                Checks.due(filter + " for 1 and 3", hall.best(0, 0), 0);
                hall.property(1, 0, 2, false);
                Checks.due(filter + " for 1 and 2", hall.best(0, 0), 1);
                hall.property(0, 0, 0, false);
                hall.property(1, 0, 3, false);
            }
        }
    }

    private static void eachPropertyIsItsOwn() {
        Hall hall = new Hall();
        hall.register(0, 0);
        for (int k = 0; k < 6; k++) {
            hall.property(0, k, k + 1, false);
        }
        for (int n = 0; n < 6; n++) {
            int f = n;
            Checks.setFilter(hall, f, "(" + (char) ('a' + f) + "=" + (f + 1) + ")");
            Checks.due("property " + f, hall.best(0, f), 0);
            hall.property(0, f, 9, false);
            Checks.refused(hall, Checks.ELEMENT, "changed", () -> hall.best(0, f));
        }
    }
}
