import java.util.ArrayList;
import java.util.List;

/**
 * A ServiceHall for the tests. It keeps its calls, so that further objects can be brought to where it stands and be
 * looked at there: no object is ever used for more than the 512 calls that the document allows.
 */
final class Hall {
    static final int CALLS = 512;
    private static final int FURTHER_CALLS = 120;

    interface Call {
        double on(ServiceHall hall);
    }

    private final ServiceHall hall = new ServiceHall();
    private final List<Call> calls = new ArrayList<>();

    int text(long w) {
        return (int) play(h -> h.text(w));
    }

    int filter(int f) {
        return (int) play(h -> h.filter(f));
    }

    int register(int i, int rank) {
        return (int) play(h -> h.register(i, rank));
    }

    int withdraw(int s) {
        return (int) play(h -> h.withdraw(s));
    }

    /** 1 for true, 0 for false. */
    int property(int s, int k, double v, boolean none) {
        return (int) play(h -> h.property(s, k, v, none) ? 1 : 0);
    }

    int describe(int c, int provides, int rank, boolean delayed, boolean fails) {
        return (int) play(h -> h.describe(c, provides, rank, delayed, fails));
    }

    int reference(int c, int i, int kind, int f) {
        return (int) play(h -> h.reference(c, i, kind, f));
    }

    int enable(int c, boolean on) {
        return (int) play(h -> h.enable(c, on));
    }

    int get(int s) {
        return (int) play(h -> h.get(s));
    }

    int unget(int s) {
        return (int) play(h -> h.unget(s));
    }

    int best(int i, int f) {
        return (int) play(h -> h.best(i, f));
    }

    double value(int s, int k) {
        return play(h -> h.value(s, k));
    }

    int bound(int c, int r, int k) {
        return (int) play(h -> h.bound(c, r, k));
    }

    int look(int c, int what) {
        return (int) play(h -> h.look(c, what));
    }

    int service(int s, int what) {
        return (int) play(h -> h.service(s, what));
    }

    int count(int what) {
        return (int) play(h -> h.count(what));
    }

    /** What is bound for a reference, by numbers. */
    String row(int c, int r) {
        return new Onlooker().row(c, r);
    }

    /** Of a component, all that look tells. */
    String looks(int c) {
        return new Onlooker().looks(c);
    }

    /** Of a service, all that service tells. */
    String told(int s) {
        return new Onlooker().told(s);
    }

    /** All that count tells. */
    String counts() {
        Onlooker onlooker = new Onlooker();
        return onlooker.counts() + " " + onlooker.read(h -> h.count(5));
    }

    /** All that can be seen of the object, and what it answers to a fixed run of further calls. */
    String shown() {
        return "letters " + new Onlooker().read(h -> h.count(5)) + shownButText() + further(h -> h.text(')'));
    }

    /** Likewise, but for the text that is written. */
    String shownButText() {
        return new Onlooker().all() + further(h -> h.filter(-1));
    }

    private double play(Call call) {
        if (calls.size() == CALLS) {
            throw new AssertionError("a test uses one object for more than 512 calls");
        }
        calls.add(call);
        return call.on(hall);
    }

    private ServiceHall playedAgain() {
        ServiceHall again = new ServiceHall();
        for (Call call : calls) {
            answer(again, call);
        }
        return again;
    }

    static String answer(ServiceHall hall, Call call) {
        try {
            double answer = call.on(hall);
            return answer == (long) answer ? String.valueOf((long) answer) : String.valueOf(answer);
        } catch (RuntimeException thrown) {
            return thrown.getClass().getSimpleName();
        }
    }

    /** What can't be looked at shows here: the letters written, how components are described, what filters ask. */
    private String further(Call first) {
        Onlooker run = new Onlooker();
        run.mustBear(FURTHER_CALLS);
        run.read(first);
        StringBuilder answers = new StringBuilder("; further: ").append(run.read(h -> h.filter(0)));
        for (int n = 0; n < 8; n++) {
            int c = n;
            answers.append(' ').append(run.read(h -> h.enable(c, true)));
        }
        for (int n = 0; n < 6; n++) {
            answers.append(' ').append(run.comesAndIsGot(n));
        }
        for (int c = 0; c < 8; c++) {
            answers.append(", ").append(run.looks(c));
        }
        return answers.append(", ").append(run.counts()).toString();
    }

    /** Reads at an object that stands where this one does, and takes a new one when the calls of that are used up. */
    private final class Onlooker {
        private ServiceHall seen = playedAgain();
        private int left = CALLS - calls.size();

        String read(Call call) {
            if (left == 0) {
                seen = playedAgain();
                left = CALLS - calls.size();
            }
            left--;
            return answer(seen, call);
        }

        /** For a run that can't go on at a new object. */
        void mustBear(int howMany) {
            if (left < howMany) {
                throw new AssertionError("a test has no calls left to look at its object");
            }
        }

        String comesAndIsGot(int i) {
            String come = read(h -> h.register(i, 1));
            int s = come.matches("[0-9]+") ? Integer.parseInt(come) : i;
            String set = read(h -> h.property(s, i, 1, false) ? 1 : 0);
            String got = read(h -> h.get(i));
            return come + " " + set + " " + got + " " + read(h -> h.unget(s / 2));
        }

        /** All but the letters. */
        String counts() {
            StringBuilder counts = new StringBuilder();
            for (int n = 0; n <= 4; n++) {
                int what = n;
                counts.append(n == 0 ? "" : " ").append(read(h -> h.count(what)));
            }
            return counts.toString();
        }

        String looks(int c) {
            StringBuilder looks = new StringBuilder();
            for (int n = 0; n <= 8; n++) {
                int what = n;
                looks.append(n == 0 ? "" : " ").append(read(h -> h.look(c, what)));
            }
            return looks.toString();
        }

        String told(int s) {
            StringBuilder told = new StringBuilder();
            for (int n = 0; n <= 4; n++) {
                int what = n;
                told.append(n == 0 ? "" : " ").append(read(h -> h.service(s, what)));
            }
            return told.toString();
        }

        String row(int c, int r) {
            StringBuilder row = new StringBuilder();
            int length = Integer.parseInt(read(h -> h.look(c, 6 + r)));
            for (int n = 0; n < length; n++) {
                int k = n;
                row.append(n == 0 ? "" : " ").append(read(h -> h.bound(c, r, k)));
            }
            return row.toString();
        }

        String all() {
            StringBuilder all = new StringBuilder("; counts ").append(counts());
            for (int c = 0; c < 8; c++) {
                all.append("; component ").append(looks(c));
                for (int r = 0; r < 3; r++) {
                    all.append(" [").append(row(c, r)).append(']');
                }
            }
            int services = Integer.parseInt(read(h -> h.count(0)));
            for (int n = 0; n < services; n++) {
                int s = n;
                all.append("; service ").append(told(s));
                for (int m = 0; m < 6; m++) {
                    int k = m;
                    all.append(' ').append(read(h -> h.value(s, k)));
                }
            }
            all.append("; best");
            for (int n = 0; n < 6; n++) {
                int i = n;
                for (int m = -1; m < 6; m++) {
                    int f = m;
                    all.append(' ').append(read(h -> h.best(i, f)));
                }
            }
            return all.toString();
        }
    }
}
