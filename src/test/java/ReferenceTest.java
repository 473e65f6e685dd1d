import java.util.NoSuchElementException;

/** Promise 8, and what each kind of REFERENCE does when services come and go. */
public final class ReferenceTest {
    /**
     * By kind: how often the component has become ACTIVE, and its row, behind enable, the registering of ranks 1, 2
     * and 0 (services 0, 1, 2), and the withdrawing of 0, 1 and 2.
     */
    private static final String[][] KINDS = {
        {"1:", "1:", "1:", "1:", "1:", "1:", "1:"},
        {"0:", "1:0", "1:0", "1:0", "2:1", "3:2", "3:"},
        {"1:", "1:", "1:", "1:", "1:", "1:", "1:"},
        {"0:", "1:0", "1:0", "1:0", "2:1 2", "3:2", "3:"},
        {"1:", "1:0", "1:0", "1:0", "1:1", "1:2", "1:"},
        {"0:", "1:0", "1:0", "1:0", "1:1", "1:2", "1:"},
        {"1:", "1:0", "1:0 1", "1:0 1 2", "1:1 2", "1:2", "1:"},
        {"0:", "1:0", "1:0 1", "1:0 1 2", "1:1 2", "1:2", "1:"},
        {"1:", "2:0", "3:1", "3:1", "3:1", "4:2", "5:"},
        {"0:", "1:0", "2:1", "2:1", "2:1", "3:2", "3:"},
        {"1:", "2:0", "3:1 0", "4:1 0 2", "5:1 2", "6:2", "7:"},
        {"0:", "1:0", "2:1 0", "3:1 0 2", "4:1 2", "5:2", "5:"},
        {"1:", "1:0", "1:1", "1:1", "1:1", "1:2", "1:"},
        {"0:", "1:0", "1:1", "1:1", "1:1", "1:2", "1:"},
        {"1:", "1:0", "1:0 1", "1:0 1 2", "1:1 2", "1:2", "1:"},
        {"0:", "1:0", "1:0 1", "1:0 1 2", "1:1 2", "1:2", "1:"}};

    public static void main(String[] args) {
        for (int kind = 0; kind < 16; kind++) {
            comesAndGoes(kind);
        }
        refusals();
        neverBindsItsOwn();
        goesOnWithTheNextReference();
        greedyTakesTheBetterOnly();
        bindsAllFifty();
        Checks.end();
    }

    private static void comesAndGoes(int kind) {
        ServiceHall hall = new ServiceHall();
        String[] due = KINDS[kind];
        Checks.component(hall, 0, -1, false, 0, kind);
        hall.enable(0, true);
        step(hall, kind, 0, due);
        for (int n = 0; n < 3; n++) {
            hall.register(0, (n + 1) % 3);
            step(hall, kind, 1 + n, due);
        }
        for (int n = 0; n < 3; n++) {
            Checks.due("kind " + kind + " has given back", hall.withdraw(n), 0);
            step(hall, kind, 4 + n, due);
        }
        boolean needsOne = (kind & 1) != 0;
        Checks.due("kind " + kind + " stands in the end", hall.look(0, 0),
                needsOne ? ServiceHall.WAITING : ServiceHall.ACTIVE);
        Checks.due("kind " + kind + " was made INACTIVE", hall.look(0, 4), hall.look(0, 2) - (needsOne ? 0 : 1));
    }

    private static void step(ServiceHall hall, int kind, int step, String[] due) {
        String got = hall.look(0, 2) + ":" + Checks.row(hall, 0, 0);
        Checks.dueText("kind " + kind + " behind step " + step, got, due[step]);
    }

    private static void refusals() {
        ServiceHall hall = new ServiceHall();
        Class<IllegalArgumentException> refusal = IllegalArgumentException.class;
        Checks.setFilter(hall, 5, "(a=1)");
        for (int wrong : new int[] {-2, 16, Integer.MIN_VALUE, Integer.MAX_VALUE}) {
            Checks.refused(hall, refusal, "component " + wrong, () -> hall.reference(wrong, 0, 0, -1));
            Checks.refused(hall, refusal, "interface " + wrong, () -> hall.reference(0, wrong, 0, -1));
            Checks.refused(hall, refusal, "kind " + wrong, () -> hall.reference(0, 0, wrong, -1));
            Checks.refused(hall, refusal, "filter " + wrong, () -> hall.reference(0, 0, 0, wrong));
        }
        Checks.refused(hall, refusal, "component -1", () -> hall.reference(-1, 0, 0, -1));
        Checks.refused(hall, refusal, "component 8", () -> hall.reference(8, 0, 0, -1));
        Checks.refused(hall, refusal, "interface -1", () -> hall.reference(0, -1, 0, -1));
        Checks.refused(hall, refusal, "interface 6", () -> hall.reference(0, 6, 0, -1));
        Checks.refused(hall, refusal, "kind -1", () -> hall.reference(0, 0, -1, -1));
        Checks.refused(hall, refusal, "filter 6", () -> hall.reference(0, 0, 0, 6));
        Checks.refused(hall, NoSuchElementException.class, "filter 4", () -> hall.reference(0, 0, 0, 4));
        Checks.due("the first", hall.reference(0, 0, 15, 5), 1);
        Checks.due("the second", hall.reference(0, 5, 0, -1), 2);
        hall.enable(0, true);
        Checks.refused(hall, IllegalStateException.class, "WAITING", () -> hall.reference(0, 0, 0, -1));
        hall.enable(0, false);
        Checks.due("the third", hall.reference(0, 0, 0, -1), 3);
        Checks.refused(hall, IndexOutOfBoundsException.class, "a fourth", () -> hall.reference(0, 0, 0, -1));
        Checks.due("of another component", hall.reference(7, 0, 0, -1), 1);
    }

    private static void neverBindsItsOwn() {
        ServiceHall hall = new ServiceHall();
        Checks.component(hall, 0, 0, false, 0, 2 + 4);
        hall.enable(0, true);
        Checks.dueText("its own service is no target", Checks.row(hall, 0, 0), "");
        Checks.component(hall, 1, 0, true, 0, 1);
        Checks.due("another's is, and asked for at once", hall.enable(1, true), ServiceHall.ACTIVE);
        Checks.dueText("so the first one has it bound", Checks.row(hall, 0, 0), "1");
        Checks.dueText("and the other one the first one's", Checks.row(hall, 1, 0), "0");
        Checks.component(hall, 2, 3, true, 3, 1);
        Checks.due("one that needs its own kind waits", hall.enable(2, true), ServiceHall.WAITING);
    }

    private static void goesOnWithTheNextReference() {
        ServiceHall hall = new ServiceHall();
        hall.describe(0, -1, 0, false, false);
        hall.reference(0, 0, 2 + 4, -1);
        hall.reference(0, 1, 1, -1);
        hall.reference(0, 0, 4 + 8, -1);
        hall.register(1, 0);
        hall.enable(0, true);
        hall.register(0, 0);
        hall.register(0, 1);
        Checks.dueText("all of them", Checks.row(hall, 0, 0), "1 2");
        Checks.dueText("the better one", Checks.row(hall, 0, 2), "2");
        Checks.due("uses for both references", hall.service(2, 4), 2);
        hall.withdraw(2);
        Checks.dueText("what is left", Checks.row(hall, 0, 0), "1");
        Checks.dueText("what is left is the best", Checks.row(hall, 0, 2), "1");
        Checks.due("it was made once", hall.look(0, 2), 1);
    }

    private static void greedyTakesTheBetterOnly() {
        ServiceHall hall = new ServiceHall();
        Checks.component(hall, 0, -1, false, 0, 4 + 8);
        hall.register(0, 5);
        hall.enable(0, true);
        hall.register(0, 5);
        Checks.due("the same rank and a higher number is not better", hall.bound(0, 0, 0), 0);
        hall.register(0, 6);
        Checks.due("a greater rank is", hall.bound(0, 0, 0), 2);
        Checks.due("the other one was given back", hall.service(0, 4), 0);
        hall.describe(1, 0, 9, true, true);
        hall.enable(1, true);
        Checks.due("better, but can't be got", hall.bound(0, 0, 0), 2);
        Checks.due("it was tried", hall.look(1, 3), 1);
    }

    private static void bindsAllFifty() {
        ServiceHall hall = new ServiceHall();
        Checks.component(hall, 0, -1, false, 0, 1 + 2 + 4);
        hall.enable(0, true);
        for (int s = 0; s < 50; s++) {
            hall.register(0, 0);
        }
        Checks.due("all are bound", hall.look(0, 6), 50);
        Checks.due("the last", hall.bound(0, 0, 49), 49);
        Checks.due("the first goes", hall.withdraw(0), 0);
        Checks.due("the others move up", hall.bound(0, 0, 0), 1);
        Checks.due("to the last", hall.bound(0, 0, 48), 49);
        Checks.due("in the middle", hall.withdraw(25), 0);
        Checks.due("those before it stay", hall.bound(0, 0, 23), 24);
        Checks.due("those behind it move", hall.bound(0, 0, 24), 26);
    }
}
