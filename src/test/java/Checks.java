/** What the tests share: comparing answers, writing filters, and looking at all that an object shows. */
final class Checks {
    private static int checks;
    private static int wrong;

    private Checks() {
    }

    interface Call {
        double answer();
    }

    static void due(String what, double got, double want) {
        checks++;
        if (got != want) {
            tell(what + " answered " + got + ", due is " + want);
        }
    }

    static void dueText(String what, String got, String want) {
        checks++;
        if (!got.equals(want)) {
            tell(what + ": " + got + ", due is " + want);
        }
    }

    static void noFilter(ServiceHall hall, Class<? extends RuntimeException> due, String what, int f, String text) {
        refused(hall, due, what, () -> setFilter(hall, f, text));
    }

    /** The call throws this very exception, and nothing that the object shows is other than before. */
    static void refused(ServiceHall hall, Class<? extends RuntimeException> due, String what, Call call) {
        String before = shown(hall);
        thrown(due, what, call);
        dueText(what + " leaves changed", shown(hall), before);
    }

    static void thrown(Class<? extends RuntimeException> due, String what, Call call) {
        checks++;
        try {
            tell(what + " answered " + call.answer() + ", due is " + due.getSimpleName());
        } catch (RuntimeException got) {
            if (got.getClass() != due) {
                tell(what + " threw " + got + ", due is " + due.getSimpleName());
            }
        }
    }

    static void tell(String fault) {
        wrong++;
        System.out.println(fault);
    }

    static void end() {
        System.out.println(checks + " checks, " + wrong + " wrong");
        if (wrong != 0) {
            System.exit(1);
        }
    }

    /** The first eight letters as the octets of a number, the first one lowest. */
    static long octets(String letters) {
        long octets = 0;
        for (int n = Math.min(8, letters.length()) - 1; n >= 0; n--) {
            octets = octets << 8 | letters.charAt(n);
        }
        return octets;
    }

    static void write(ServiceHall hall, String text) {
        for (int from = 0; from < text.length(); from += 8) {
            hall.text(octets(text.substring(from)));
        }
    }

    static int setFilter(ServiceHall hall, int f, String text) {
        write(hall, text);
        return hall.filter(f);
    }

    /** A component with one reference, described and not yet enabled. */
    static void component(ServiceHall hall, int c, int provides, boolean delayed, int face, int kind) {
        hall.describe(c, provides, 0, delayed, false);
        hall.reference(c, face, kind, -1);
    }

    /** Service 0 from outside; delayed component 0 needs it for its service 1; delayed component 1 that for its 2. */
    static ServiceHall delayedChain() {
        ServiceHall hall = new ServiceHall();
        component(hall, 0, 1, true, 0, 1);
        component(hall, 1, 2, true, 1, 1);
        hall.register(0, 0);
        hall.enable(0, true);
        hall.enable(1, true);
        return hall;
    }

    static String row(ServiceHall hall, int c, int r) {
        StringBuilder row = new StringBuilder();
        for (int k = 0; k < hall.look(c, 6 + r); k++) {
            row.append(k == 0 ? "" : " ").append(hall.bound(c, r, k));
        }
        return row.toString();
    }

    /** All that an object shows by calls that change nothing. */
    static String shown(ServiceHall hall) {
        StringBuilder all = new StringBuilder("counts");
        for (int what = 0; what <= 5; what++) {
            all.append(' ').append(hall.count(what));
        }
        for (int c = 0; c < 8; c++) {
            all.append("; component");
            for (int what = 0; what <= 8; what++) {
                all.append(' ').append(hall.look(c, what));
            }
            for (int r = 0; r < 3; r++) {
                all.append(" [").append(row(hall, c, r)).append(']');
            }
        }
        for (int s = 0; s < hall.count(0); s++) {
            all.append("; service");
            for (int what = 0; what <= 4; what++) {
                all.append(' ').append(hall.service(s, what));
            }
            for (int k = 0; k < 6; k++) {
                all.append(' ').append(valueOrNone(hall, s, k));
            }
        }
        for (int i = 0; i < 6; i++) {
            for (int f = -1; f < 6; f++) {
                all.append(' ').append(bestOrNone(hall, i, f));
            }
        }
        return all.toString();
    }

    private static String valueOrNone(ServiceHall hall, int s, int k) {
        try {
            return String.valueOf(hall.value(s, k));
        } catch (java.util.NoSuchElementException none) {
            return "none";
        }
    }

    private static String bestOrNone(ServiceHall hall, int i, int f) {
        try {
            return String.valueOf(hall.best(i, f));
        } catch (java.util.NoSuchElementException none) {
            return "none";
        }
    }
}
