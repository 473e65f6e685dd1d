/** Promise 14. */
public final class BoundTest {
    public static void main(String[] args) {
        tellsEachPlaceOfEachReference();
        refusesOtherComponents();
        refusesOtherReferences();
        refusesOtherPlaces();
        refusesWhatIsNotActive();
        Checks.end();
    }

    /** Reference 0 has one, reference 1 three, reference 2 none. */
    private static Hall inUse() {
        Hall hall = new Hall();
        hall.register(0, 0);
        hall.register(1, 1);
        hall.register(1, 2);
        hall.register(1, 0);
        hall.reference(7, 0, 0, -1);
        hall.reference(7, 1, 2, -1);
        hall.reference(7, 2, 2, -1);
        hall.enable(7, true);
        return hall;
    }

    private static void tellsEachPlaceOfEachReference() {
        Hall hall = inUse();
        Checks.due("at most one", hall.bound(7, 0, 0), 0);
        Checks.due("the best first", hall.bound(7, 1, 0), 2);
        Checks.due("the second", hall.bound(7, 1, 1), 1);
        Checks.due("the third", hall.bound(7, 1, 2), 3);
        Checks.component(hall, 0, -1, false, 1, 1);
        hall.enable(0, true);
        Checks.due("of another component", hall.bound(0, 0, 0), 2);
    }

    private static void refusesOtherComponents() {
        Hall hall = inUse();
        for (int c : Checks.outside(0, 7)) {
            Checks.refused(hall, Checks.ARGUMENT, "component " + c, () -> hall.bound(c, 0, 0));
        }
    }

    private static void refusesOtherReferences() {
        Hall hall = inUse();
        for (int r : Checks.outside(0, 2)) {
            Checks.refused(hall, Checks.INDEX, "reference " + r, () -> hall.bound(7, r, 0));
        }
        Checks.component(hall, 0, -1, false, 0, 0);
        hall.enable(0, true);
        Checks.refused(hall, Checks.INDEX, "reference 1 of one", () -> hall.bound(0, 1, 0));
        Checks.refused(hall, Checks.INDEX, "reference 0 of none", () -> hall.bound(1, 0, 0));
    }

    private static void refusesOtherPlaces() {
        Hall hall = inUse();
        for (int k : Checks.outside(0, 0)) {
            Checks.refused(hall, Checks.INDEX, "place " + k + " of one", () -> hall.bound(7, 0, k));
        }
        for (int k : Checks.outside(0, 2)) {
            Checks.refused(hall, Checks.INDEX, "place " + k + " of three", () -> hall.bound(7, 1, k));
        }
        for (int k : Checks.outside(0, -1)) {
            Checks.refused(hall, Checks.INDEX, "place " + k + " of none", () -> hall.bound(7, 2, k));
        }
    }

    private static void refusesWhatIsNotActive() {
        Hall hall = inUse();
        hall.enable(7, false);
        for (int n = 0; n < 3; n++) {
            int r = n;
            Checks.refused(hall, Checks.INDEX, "OFF", () -> hall.bound(7, r, 0));
        }
        Checks.component(hall, 0, 5, true, 1, 1);
        hall.enable(0, true);
        Checks.refused(hall, Checks.INDEX, "READY", () -> hall.bound(0, 0, 0));
        hall.get(hall.look(0, 1));
        Checks.due("ACTIVE", hall.bound(0, 0, 0), 2);
        hall.unget(hall.look(0, 1));
        Checks.refused(hall, Checks.INDEX, "READY again", () -> hall.bound(0, 0, 0));
    }
}
