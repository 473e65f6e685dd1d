import java.util.Random;

/**
 * Runs of calls drawn from fixed seeds, as long as an object may be used: ServiceHall and PlainHall answer the same,
 * and whatever they answer, a service's uses are its gets from outside and its places in rows.
 */
public final class RandomRunsTest {
    private static final int RUNS = 3000;
    /** Of the 512 calls of an object the last ones look at all of it. */
    private static final int CALLS = Hall.CALLS - 132;
    private static final String[] FILTERS = {
        "(a=1)", "(a>=1)", "(a<=-0.5)", "(b=*)", "(!(a=1))", "(&(a>=0)(b<=2.25))", "(|(a=1)(b=1)(c=*))",
        "(&(!(a=2))(|(b=0)(a=1)))", "(!(&(a=*)))", "(a=1.5)", "(&)", "(!(a=1)(b=1))", "(a<1)", "(a>=*)", "(a=1))",
        "(|(a=1)", "(g=1)", "(a=1.)", "(a=-)", "(a=.5)", "(a=00001)", "(a=1.0000)", "a=1", "(&(&(&(&(&(&(&(&(a=1"};
    private static final double[] VALUES = {0, 1, 2, 1.5, -0.5, 2.25, -0.0, Double.NaN, 1e300};

    private final Random random;
    private final ServiceHall hall = new ServiceHall();
    private final PlainHall plain = new PlainHall();
    private final int[] outside = new int[50];
    /** Some runs have services going slowly, so that components' own services do not use up all numbers at once. */
    private final int faces;
    private final int delayedShare;
    private int calls;

    private RandomRunsTest(long seed) {
        random = new Random(seed);
        faces = 1 + random.nextInt(6);
        delayedShare = random.nextInt(5);
    }

    public static void main(String[] args) {
        boolean agree = true;
        for (int run = 0; run < RUNS && agree; run++) {
            agree = new RandomRunsTest(run).agrees(run);
        }
        Checks.due("runs agree", agree ? 1 : 0, 1);
        Checks.end();
    }

    private boolean agrees(int run) {
        while (calls < CALLS) {
            if (!same(run, next())) {
                return false;
            }
            if (!usesAddUp()) {
                Checks.tell("run " + run + " call " + calls + ": uses do not add up");
                return false;
            }
        }
        return agreesInTheEnd(run);
    }

    private boolean same(int run, String[] answers) {
        if (!answers[1].equals(answers[2])) {
            Checks.tell("run " + run + " call " + calls + ": " + answers[0] + " answered " + answers[1]
                    + ", due is " + answers[2]);
        }
        return answers[1].equals(answers[2]);
    }

    private boolean agreesInTheEnd(int run) {
        boolean same = true;
        for (int n = 0; n < 5; n++) {
            int what = n;
            same = same && same(run, both("count " + what, () -> hall.count(what), () -> plain.count(what)));
        }
        for (int n = 0; n < 72; n++) {
            int c = n / 9;
            int what = n % 9;
            same = same && same(run, both("look " + c + " " + what,
                    () -> hall.look(c, what), () -> plain.look(c, what)));
        }
        for (int n = 0; n < plain.services.size(); n++) {
            int s = n;
            same = same && same(run, both("service " + s, () -> hall.service(s, 4), () -> plain.service(s, 4)));
        }
        return same;
    }

    /** Of the plain one, whose answers are the same: looking at the other one would take calls. */
    private boolean usesAddUp() {
        int[] uses = outside.clone();
        for (PlainHall.Component c : plain.components) {
            for (PlainHall.Reference r : c.references) {
                r.bound.forEach(s -> uses[s.number]++);
            }
        }
        return plain.services.stream().allMatch(s -> s.uses == uses[s.number]);
    }

    /** What was called, what ServiceHall answered, what PlainHall answered. */
    private String[] next() {
        int c = numberAround(8);
        int i = random.nextInt(40) == 0 ? numberAround(6) : random.nextInt(faces);
        int s = numberAround(plain.services.size() + 1);
        int rank = random.nextInt(5) - 2;
        int k = numberAround(random.nextBoolean() ? 2 : 6);
        boolean coin = random.nextBoolean();
        switch (random.nextInt(24)) {
            case 0: case 1: return written();
            case 2: {
                int f = numberAround(6);
                return both("filter " + f, () -> hall.filter(f), () -> plain.filter(f));
            }
            case 3: return random.nextInt(3) > 0 ? looked() : both("register " + i + " " + rank,
                    () -> hall.register(i, rank), () -> plain.register(i, rank));
            case 4: return both("withdraw " + s, () -> hall.withdraw(s), () -> plain.withdraw(s));
            case 5: case 6: {
                double v = VALUES[random.nextInt(VALUES.length)];
                boolean none = random.nextInt(4) == 0;
                return both("property " + s + " " + k + " " + v + " " + none,
                        () -> hall.property(s, k, v, none) ? 1 : 0, () -> plain.property(s, k, v, none) ? 1 : 0);
            }
            case 7: case 8: {
                int provides = random.nextInt(3) == 0 ? -1 : i;
                boolean delayed = random.nextInt(5) < delayedShare;
                boolean fails = random.nextInt(6) == 0;
                return both("describe " + c + " " + provides + " " + rank + " " + delayed + " " + fails,
                        () -> hall.describe(c, provides, rank, delayed, fails),
                        () -> plain.describe(c, provides, rank, delayed, fails));
            }
            case 9: case 10: case 11: case 12: {
                int kind = numberAround(16);
                int f = coin ? -1 : numberAround(6);
                return both("reference " + c + " " + i + " " + kind + " " + f,
                        () -> hall.reference(c, i, kind, f), () -> plain.reference(c, i, kind, f));
            }
            case 13: case 14: case 15: {
                boolean on = random.nextInt(3) > 0;
                return both("enable " + c + " " + on, () -> hall.enable(c, on), () -> plain.enable(c, on));
            }
            case 16: case 17: return outsideGets(s);
            case 18: case 19: return outsideUngets(s);
            default: return looked();
        }
    }

    private String[] outsideGets(int s) {
        String[] answers = both("get " + s, () -> hall.get(s), () -> plain.get(s));
        if (!answers[1].startsWith("throws")) {
            outside[s]++;
        }
        return answers;
    }

    private String[] outsideUngets(int s) {
        String[] answers = both("unget " + s, () -> hall.unget(s), () -> plain.unget(s));
        if (!answers[1].startsWith("throws")) {
            outside[s]--;
        }
        return answers;
    }

    private String[] looked() {
        int c = numberAround(8);
        int s = numberAround(plain.services.size());
        int what = numberAround(9);
        int few = numberAround(3);
        int place = numberAround(random.nextInt(4));
        int i = numberAround(6);
        int f = numberAround(6);
        switch (random.nextInt(7)) {
            case 0: return both("best " + i + " " + f, () -> hall.best(i, f), () -> plain.best(i, f));
            case 1: return both("value " + s + " " + i, () -> hall.value(s, i), () -> plain.value(s, i));
            case 2: case 3: return both("bound " + c + " " + few + " " + place,
                    () -> hall.bound(c, few, place), () -> plain.bound(c, few, place));
            case 4: return both("look " + c + " " + what, () -> hall.look(c, what), () -> plain.look(c, what));
            case 5: return both("service " + s + " " + f, () -> hall.service(s, f), () -> plain.service(s, f));
            default: return both("count " + i, () -> hall.count(i), () -> plain.count(i));
        }
    }

    private String[] written() {
        if (random.nextInt(10) == 0) {
            long w = random.nextLong();
            return both("text " + w, () -> hall.text(w), () -> plain.text(w));
        }
        String filter = FILTERS[random.nextInt(FILTERS.length)];
        String[] answers = {"", "", ""};
        for (int from = 0; from < filter.length() && answers[1].equals(answers[2]); from += 8) {
            long w = Checks.octets(filter.substring(from));
            answers = both("text " + filter + " from " + from, () -> hall.text(w), () -> plain.text(w));
        }
        int f = random.nextInt(6);
        return !answers[1].equals(answers[2]) ? answers
                : both("filter " + f, () -> hall.filter(f), () -> plain.filter(f));
    }

    /** Mostly one that is below the bound, now and then one that is not. */
    private int numberAround(int bound) {
        return random.nextInt(12) == 0 || bound == 0 ? random.nextInt(bound + 3) - 1 : random.nextInt(bound);
    }

    private String[] both(String call, Checks.Call ours, Checks.Call theirs) {
        calls++;
        if (calls > Hall.CALLS) {
            throw new AssertionError("a run uses one object for more than 512 calls");
        }
        return new String[] {call, answerOf(ours), answerOf(theirs)};
    }

    private static String answerOf(Checks.Call call) {
        try {
            return String.valueOf(call.answer());
        } catch (RuntimeException thrown) {
            return "throws " + thrown.getClass().getSimpleName();
        }
    }
}
