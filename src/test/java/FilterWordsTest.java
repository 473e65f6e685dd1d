/** Terms: what a FILTER's text may be, the last that is one and the first that is none. */
public final class FilterWordsTest {
    private static final String[] LETTERS = {
        "g", "A", "F", "`", "aa", "1", "*", "=", "(", "-", "&a", "!a", "|a"};
    private static final String[] SIGNS = {"", "<", ">", "==", "=<", "=>", "!=", "<<=", ">>=", "<>", "~=", ":"};
    private static final String[] NUMBERS = {
        "", "-", "--1", "+1", "1-", "-+1", "12345", "00001", "-12345", "1.", ".5", "-.5", ".", "1.2345", "1.0000",
        "1.2.3", "1..2", "1.-2", "1,5", "1e3", "0x1", "1a", "a", "12345.6", "1*", "*1", "**", "-*", "1.*"};

    public static void main(String[] args) {
        theEmptyTextIsNone();
        bracketsStandRoundEach();
        nothingStandsBeforeOrBehind();
        allAndAnyHaveOneOrMore();
        notHasExactlyOne();
        propertiesAreAToF();
        signsAreThree();
        numbersHaveOneToFourDigits();
        numbersHaveOneToThreeDigitsBehindADot();
        theStarStandsBehindEqualAlone();
        thirtyTwoLettersAreTheMost();
        deepOnesMayBreakOff();
        Checks.end();
    }

    private static void is(String text, int comparisons) {
        Hall hall = new Hall();
        Checks.due(text, Checks.setFilter(hall, 3, text), comparisons);
    }

    private static void isNone(String... texts) {
        for (String text : texts) {
            Hall hall = new Hall();
            Checks.noFilter(hall, Checks.ARGUMENT, 3, text);
            Checks.refused(hall, Checks.ELEMENT, "there is no filter then", () -> hall.reference(0, 0, 0, 3));
        }
    }

    private static void theEmptyTextIsNone() {
        Hall hall = new Hall();
        Checks.refused(hall, Checks.ARGUMENT, "no text", () -> hall.filter(3));
    }

    private static void bracketsStandRoundEach() {
        is("(a=1)", 1);
        isNone("(", ")", "()", ")(", "a=1", "(a=1", "a=1)", "((a=1))", "((a=1)", "(a=1))", "[a=1]", "{a=1}");
        isNone("&(a=1)", "(&a=1)", "(&(a=1)", "&(a=1))", "(&(a=1)b=1)", "(&a=1(b=1))", "((&(a=1)))", "(&((a=1)))");
        isNone("!(a=1)", "(!a=1)", "(!(a=1)", "(|(a=1)", "(|a=1)", "(|(a=1)(b=1)", "((a=1)(b=1))");
    }

    private static void nothingStandsBeforeOrBehind() {
        isNone("(a=1)x", "x(a=1)", "(a=1)(b=1)", "(&(a=1))(b=1)", "(a=1)&", "&(a=1)(b=1)", "(&(a=1)x)", "(&x(a=1))");
        isNone("(!(a=1)x)", "(|(a=1)&)", "(&&(a=1))", "(&|(a=1))", "(!!(a=1))", "(&(a=1)!(b=1))");
    }

    private static void allAndAnyHaveOneOrMore() {
        isNone("(&)", "(|)", "(&(a=1)(&))", "(|(|))", "(!(&))", "(&(|)(a=1))");
        is("(&(a=1))", 1);
        is("(|(a=1))", 1);
        is("(&(a=1)(b=1))", 2);
        is("(|(a=1)(b=1))", 2);
        is("(&(&(a=1))(|(b=1)))", 2);
        is("(&(a=1)(b=1)(c=1)(d=1)(e=1))", 5);
        is("(|(a=1)(b=1)(c=1)(d=1)(e=1))", 5);
    }

    private static void notHasExactlyOne() {
        isNone("(!)", "(!(a=1)(b=1))", "(!(!))", "(&(!))", "(!(&(a=1))(b=1))");
        is("(!(a=1))", 1);
        is("(!(&(a=1)(b=1)))", 2);
        is("(&(!(a=1))(!(b=1)))", 2);
    }

    private static void propertiesAreAToF() {
        for (char k = 'a'; k <= 'f'; k++) {
            is("(" + k + "=1)", 1);
            is("(" + k + "=*)", 1);
        }
        for (String k : LETTERS) {
            isNone("(" + k + "=1)", "(" + k + "=*)");
        }
        isNone("(=1)", "(<=1)", "(a)", "(&(b))", "(&(a=1)(b))", "(&(b)", "(&(a=1)(b)", "(&(b)(a=1))");
        isNone("(|(a=)", "(!(a)", "(|(a=))", "(!(a))");
    }

    private static void signsAreThree() {
        is("(a=1)", 1);
        is("(a<=1)", 1);
        is("(a>=1)", 1);
        for (String sign : SIGNS) {
            isNone("(a" + sign + "1)");
        }
    }

    /** "an optional -, 1 to 4 digits" */
    private static void numbersHaveOneToFourDigits() {
        for (String sign : new String[] {"=", "<=", ">="}) {
            is("(a" + sign + "0)", 1);
            is("(a" + sign + "9)", 1);
            is("(a" + sign + "0000)", 1);
            is("(a" + sign + "9999)", 1);
            is("(a" + sign + "-9999)", 1);
            is("(a" + sign + "-0)", 1);
            for (String number : NUMBERS) {
                isNone("(a" + sign + number + ")");
            }
        }
        isNone("(a=/)", "(a=:)", "(a=1/)", "(a=1:)", "(a=1.:)", "(a=1./)");
    }

    /** "and perhaps a dot and 1 to 3 digits" */
    private static void numbersHaveOneToThreeDigitsBehindADot() {
        is("(a=0.0)", 1);
        is("(a=1.23)", 1);
        is("(a=1.234)", 1);
        is("(a<=-9999.999)", 1);
        is("(a>=9999.999)", 1);
        isNone("(a=1.)", "(a=-1.)", "(a=1234.)", "(a=1.2345)", "(a=9999.9999)", "(a=12345.1)", "(a=.1)");
    }

    private static void theStarStandsBehindEqualAlone() {
        is("(a=*)", 1);
        is("(!(a=*))", 1);
        isNone("(a<=*)", "(a>=*)", "(a*)", "(*)", "(*=*)", "(a=**)", "(a=-*)", "(a=*.5)");
    }

    private static void thirtyTwoLettersAreTheMost() {
        is("(!(!(!(!(!(!(!(!(!(a=1))))))))))", 1);
        is("(&(&(&(&(&(&(&(&(&(a=1))))))))))", 1);
        is("(|(a=1)(b=1)(c=1)(d=1)(e<=1234))", 5);
        is("(&(a>=-1234.567)(b<=-1234.567))", 2);
        isNone("(!(!(!(!(!(!(!(!(!(a=1)))))))))x", "(!(!(!(!(!(!(!(!(!(a1)))))))))))");
        Hall hall = new Hall();
        Checks.write(hall, "(!(!(!(!(!(!(!(!(!(a=12)))))))))");
        Checks.refused(hall, Checks.INDEX, "the 33rd letter does not come to it", () -> hall.text(')'));
        Checks.thrown(Checks.ARGUMENT, "without it there is none", () -> hall.filter(0));
    }

    /** Full texts that end in the middle of a part. */
    private static void deepOnesMayBreakOff() {
        isNone("(&(&(&(&(&(&(&(&(&(&(&(&(&(&(&(&", "(!(!(!(!(!(!(!(!(!(!(!(!(!(!(!(!");
        isNone("((((((((((((((((((((((((((((((((", "))))))))))))))))))))))))))))))))");
        isNone("&&&&&&&&&&&&&&&&&&&&&&&&&&&&&&&&", "(&(a=1)(a=1)(a=1)(a=1)(a=100.5)(");
        isNone("(&(a=1)(a=1)(a=1)(a=1)(a=1)(a=10", "(&(a=1)(a=1)(a=1)(a=1)(a=1)(a<=-");
        isNone("(&(a=1)(a=1)(a=1)(a=1)(a=10.25)&", "(&(a=1)(a=1)(a=1)(a=1)(a=1)(a=1)");
        isNone("(&(a=1)(a=1)(a=1)(a=1)(a=1)(a=1.", "(&(a=1)(a=1)(a=1)(a=1)(a=1000)(a");
        isNone("(&(a=1)(a=1)(a=1)(a=1)(a=100)(a=", "(&(a=1)(a=1)(a=1)(a=1)(a=1)(a>=1");
        isNone("(&(a=1)(a=1)(a=1)(a=1)(a=100)(a<");
    }
}
