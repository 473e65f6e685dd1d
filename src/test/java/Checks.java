import java.util.NoSuchElementException;

/** What the tests share: comparing answers and refusals, writing filters, and set-ups. */
final class Checks {
    static final Class<IllegalArgumentException> ARGUMENT = IllegalArgumentException.class;
    static final Class<IllegalStateException> STATE = IllegalStateException.class;
    static final Class<NoSuchElementException> ELEMENT = NoSuchElementException.class;
    static final Class<IndexOutOfBoundsException> INDEX = IndexOutOfBoundsException.class;

    private static int checks;
    private static int wrong;

    private Checks() {
    }

    interface Call {
        double answer();
    }

    static void due(String what, double got, double want) {
        checks++;
        if (Double.compare(got, want) != 0 && got != want) {
            tell(what + ": " + got + ", due is " + want);
        }
    }

    static void dueText(String what, String got, String want) {
        checks++;
        if (!got.equals(want)) {
            tell(what + ": " + got + ", due is " + want);
        }
    }

    /** The call throws this very exception, and all that the object shows is as before. */
    static void refused(Hall hall, Class<? extends RuntimeException> due, String what, Call call) {
        String before = hall.shown();
        thrown(due, what, call);
        sameAs(before, what + " leaves changed", hall.shown());
    }

    /** Of long texts only what stands round the first difference is told. */
    static void sameAs(String before, String what, String now) {
        int same = 0;
        while (same < Math.min(before.length(), now.length()) && before.charAt(same) == now.charAt(same)) {
            same++;
        }
        dueText(what, around(now, same), around(before, same));
    }

    private static String around(String text, int place) {
        return text.substring(Math.max(0, place - 60), Math.min(text.length(), place + 20));
    }

    /** The text is empty before and behind, so that all is as before here too. */
    static void noFilter(Hall hall, Class<? extends RuntimeException> due, int f, String text) {
        refused(hall, due, "filter " + f + " " + text, () -> setFilter(hall, f, text));
    }

    static void thrown(Class<? extends RuntimeException> due, String what, Call call) {
        checks++;
        try {
            tell(what + " answered " + call.answer() + ", due is " + due.getSimpleName());
        } catch (RuntimeException got) {
            if (got.getClass() != due) {
                tell(what + " threw " + got + ", due is " + due.getSimpleName());
            }
        }
    }

    static void tell(String fault) {
        wrong++;
        System.out.println(fault);
    }

    static void end() {
        System.out.println(checks + " checks, " + wrong + " wrong");
        if (wrong != 0 || checks == 0) {
            System.exit(1);
        }
    }

    /** The first that are not allowed on either side, and the farthest. */
    static int[] outside(int first, int last) {
        return new int[] {first - 1, last + 1, Integer.MIN_VALUE, Integer.MAX_VALUE};
    }

    /** The first eight letters as the octets of a number, the first one lowest. */
    static long octets(String letters) {
        long octets = 0;
        for (int n = Math.min(8, letters.length()) - 1; n >= 0; n--) {
            octets = octets << 8 | letters.charAt(n);
        }
        return octets;
    }

    static void write(Hall hall, String text) {
        for (int from = 0; from < text.length(); from += 8) {
            hall.text(octets(text.substring(from)));
        }
    }

    static int setFilter(Hall hall, int f, String text) {
        write(hall, text);
        return hall.filter(f);
    }

    static void register(Hall hall, int howMany, int face) {
        for (int n = 0; n < howMany; n++) {
            hall.register(face, 0);
        }
    }

    /** A component with one reference, described and not yet enabled. */
    static void component(Hall hall, int c, int provides, boolean delayed, int face, int kind) {
        hall.describe(c, provides, 0, delayed, false);
        hall.reference(c, face, kind, -1);
    }

    /** Service 0 from outside; delayed component 0 needs it for its service 1; delayed component 1 that for its 2. */
    static Hall delayedChain() {
        Hall hall = new Hall();
        component(hall, 0, 1, true, 0, 1);
        component(hall, 1, 2, true, 1, 1);
        hall.register(0, 0);
        hall.enable(0, true);
        hall.enable(1, true);
        return hall;
    }

    /** A delayed component that fails: its service is there, and can never be got. */
    static void neverGot(Hall hall, int c, int face, int rank) {
        hall.describe(c, face, rank, true, true);
        hall.enable(c, true);
    }
}
