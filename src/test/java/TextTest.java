/** Promise 2. */
public final class TextTest {
    public static void main(String[] args) {
        ServiceHall hall = new ServiceHall();
        Checks.due("eight letters", hall.text(Checks.octets("(&(a=1)(")), 8);
        Checks.due("four more", hall.text(Checks.octets("b=2)")), 12);
        Checks.due("what stands behind an octet 0 does not count", hall.text(0x2020_0000_0000_0029L), 13);
        Checks.due("letters written", hall.count(5), 13);
        Checks.due("they are in order, the lowest octet first", hall.filter(0), 2);
        hall.register(0, 0);
        hall.property(0, 0, 1, false);
        hall.property(0, 1, 2, false);
        Checks.due("the filter that was written", hall.best(0, 0), 0);
        refusesWhatIsNoLetter(hall);
        refusesMoreThanThirtyTwo();
        Checks.end();
    }

    private static void refusesWhatIsNoLetter(ServiceHall hall) {
        Class<IllegalArgumentException> refusal = IllegalArgumentException.class;
        Checks.refused(hall, refusal, "no letters", () -> hall.text(0));
        Checks.refused(hall, refusal, "the lowest octet is 0", () -> hall.text(0x4100));
        for (int octet : new int[] {1, 31, 32, 127, 128, 200, 255}) {
            Checks.refused(hall, refusal, "octet " + octet, () -> hall.text(octet));
            Checks.refused(hall, refusal, "second octet " + octet, () -> hall.text(octet << 8 | 'a'));
            Checks.refused(hall, refusal, "last octet " + octet,
                    () -> hall.text((long) octet << 56 | Checks.octets("(((((((")));
        }
        Checks.due("33 is a letter", hall.text(33), 1);
        Checks.due("126 is a letter", hall.text(126), 2);
        Checks.thrown(refusal, "and no filter", () -> hall.filter(1));
    }

    private static void refusesMoreThanThirtyTwo() {
        ServiceHall hall = new ServiceHall();
        Class<IndexOutOfBoundsException> refusal = IndexOutOfBoundsException.class;
        Checks.write(hall, "(|(a=1)(b=1)(c=1)(d=1)(!(e<=12)");
        Checks.due("letters so far", hall.count(5), 31);
        Checks.refused(hall, refusal, "33 letters", () -> hall.text(Checks.octets("))")));
        Checks.refused(hall, refusal, "39 letters", () -> hall.text(Checks.octets("))))))))")));
        Checks.refused(hall, IllegalArgumentException.class, "none", () -> hall.text(0));
        Checks.refused(hall, IllegalArgumentException.class, "a wrong one, and too many", () -> hall.text(0x2029));
        Checks.due("32 letters", hall.text(')'), 32);
        Checks.refused(hall, refusal, "one more", () -> hall.text(')'));
        Checks.thrown(IllegalArgumentException.class, "it lacks a bracket", () -> hall.filter(0));
    }
}
