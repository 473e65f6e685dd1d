/** Promise 2. */
public final class TextTest {
    public static void main(String[] args) {
        takesTheLowestOctetFirst();
        endsAtTheFirstOctetThatIsZero();
        answersHowManyThereAre();
        refusesNone();
        refusesWhatIsNoLetter();
        takesTheFirstAndTheLastLetter();
        takesThirtyTwo();
        refusesMoreThanThirtyTwo();
        isEmptyAgainBehindAFilter();
        Checks.end();
    }

    /** The other way round it would be no filter. */
    private static void takesTheLowestOctetFirst() {
        Hall hall = new Hall();
        Checks.due("five letters", hall.text(0x29_31_3d_61_28L), 5);
        Checks.due("they are (a=1)", hall.filter(0), 1);
        hall.property(hall.register(0, 0), 0, 1, false);
        Checks.due("and mean that", hall.best(0, 0), 0);
        Checks.due("eight letters", hall.text(Checks.octets("(&(a=1)(")), 8);
        Checks.due("five more", hall.text(Checks.octets("b=2))")), 13);
        Checks.due("they are (&(a=1)(b=2))", hall.filter(0), 2);
    }

    private static void endsAtTheFirstOctetThatIsZero() {
        Hall hall = new Hall();
        Checks.due("one letter", hall.text('('), 1);
        Checks.due("letters behind a 0", hall.text(0x2929_2929_2900_3d61L), 3);
        Checks.due("what is no letter behind a 0", hall.text(0xff20_7f01_8000_2931L), 5);
        Checks.due("0 in the highest octet alone", hall.text(Checks.octets("(&(a=1)")), 12);
        Checks.thrown(Checks.ARGUMENT, "(a=1)(&(a=1) is none", () -> hall.filter(0));
        Checks.write(hall, "(");
        hall.text(0x2929_2929_2900_3d61L);
        hall.text(0xff20_7f01_8000_2931L);
        Checks.due("(a=1) is one", hall.filter(0), 1);
    }

    private static void answersHowManyThereAre() {
        Hall hall = new Hall();
        int letters = 0;
        for (int length = 1; length <= 7; length++) {
            letters += length;
            Checks.due(length + " more", hall.text(Checks.octets("abcdefg".substring(0, length))), letters);
            Checks.due("count says the same", hall.count(5), letters);
        }
    }

    private static void refusesNone() {
        Hall hall = new Hall();
        Checks.refused(hall, Checks.ARGUMENT, "no octets", () -> hall.text(0));
        Checks.refused(hall, Checks.ARGUMENT, "the lowest is 0", () -> hall.text(0x4100));
        Checks.refused(hall, Checks.ARGUMENT, "the highest alone is not", () -> hall.text(0x4100_0000_0000_0000L));
        Checks.refused(hall, Checks.ARGUMENT, "the least number", () -> hall.text(Long.MIN_VALUE));
        Checks.write(hall, "(a=1");
        Checks.refused(hall, Checks.ARGUMENT, "behind others", () -> hall.text(0));
    }

    private static void refusesWhatIsNoLetter() {
        Hall hall = new Hall();
        hall.text('(');
        for (int octet : new int[] {1, 31, 32, 127, 128, 161, 254, 255}) {
            for (int place = 0; place < 8; place++) {
                long before = Checks.octets("a=1)a=1)".substring(0, place));
                long w = before | (long) octet << (8 * place);
                Checks.refused(hall, Checks.ARGUMENT, octet + " at " + place, () -> hall.text(w));
            }
        }
        Checks.refused(hall, Checks.ARGUMENT, "all octets 255", () -> hall.text(-1));
    }

    private static void takesTheFirstAndTheLastLetter() {
        for (int letter : new int[] {33, 126}) {
            Hall hall = new Hall();
            for (int place = 0; place < 4; place++) {
                long w = Checks.octets("a=1)a=1)".substring(0, 2 * place)) | (long) letter << (16 * place);
                Checks.due(letter + " at " + 2 * place, hall.text(w), (place + 1) * (place + 1));
            }
            Checks.due(letter + " in all octets", hall.text(letter * 0x0101_0101_0101_0101L), 24);
        }
    }

    private static void takesThirtyTwo() {
        Hall hall = new Hall();
        for (int letters = 8; letters <= 32; letters += 8) {
            Checks.due("eight more", hall.text(Checks.octets("(!(!(!(!")), letters);
        }
        Hall oneByOne = new Hall();
        for (int letters = 1; letters <= 32; letters++) {
            Checks.due("one more", oneByOne.text("(!(!(!(!(!(!(!(!(!(a=1))))))))))".charAt(letters - 1)), letters);
        }
        Checks.due("they are a filter", oneByOne.filter(0), 1);
    }

    private static void refusesMoreThanThirtyTwo() {
        Hall hall = new Hall();
        Checks.write(hall, "(|(a=1)(b=1)(c=1)(d=1)(e<");
        Checks.refused(hall, Checks.INDEX, "33 letters, 8 of them new", () -> hall.text(Checks.octets("=123))))")));
        Checks.due("30 letters", hall.text(Checks.octets("=1234")), 30);
        Checks.refused(hall, Checks.INDEX, "33 letters, 3 of them new", () -> hall.text(Checks.octets(")))")));
        Checks.due("31 letters", hall.text(')'), 31);
        Checks.refused(hall, Checks.INDEX, "33 letters, 2 of them new", () -> hall.text(Checks.octets("))")));
        Checks.refused(hall, Checks.INDEX, "39 letters", () -> hall.text(Checks.octets("))))))))")));
        Checks.due("32 letters", hall.text(')'), 32);
        Checks.refused(hall, Checks.INDEX, "33 letters, 1 of them new", () -> hall.text(')'));
        Checks.refused(hall, Checks.INDEX, "40 letters", () -> hall.text(Checks.octets("))))))))")));
        Checks.due("nothing of what was refused is in it", hall.filter(0), 5);
    }

    private static void isEmptyAgainBehindAFilter() {
        Hall hall = new Hall();
        Checks.write(hall, "(!(!(!(!(!(!(!(!(!(a=1))))))))))");
        hall.filter(0);
        Checks.due("none", hall.count(5), 0);
        Checks.write(hall, "(!(!(!(!(!(!(!(!(!(a=1))))))))))");
        Checks.due("32 again", hall.count(5), 32);
    }
}
