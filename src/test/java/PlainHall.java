import java.util.ArrayDeque;
import java.util.ArrayList;
import java.util.Comparator;
import java.util.Deque;
import java.util.List;
import java.util.NoSuchElementException;
import java.util.regex.Matcher;
import java.util.regex.Pattern;

/** The document's Terms once more, as near to its words as Java's library allows: what RandomRunsTest compares with. */
final class PlainHall {
    static final int OFF = 0, WAITING = 1, READY = 2, ACTIVE = 3, BROKEN = 4;
    private static final Pattern COMPARISON =
            Pattern.compile("\\(([a-f])(?:(=)(\\*)|(=|<=|>=)(-?)([0-9]{1,4})(?:\\.([0-9]{1,3}))?)\\)");

    static final class Service {
        int number, face, rank, uses, outside;
        Component from;
        boolean there = true;
        Double[] properties = new Double[6];
    }

    static final class Reference {
        int face, kind, filter;
        List<Service> bound = new ArrayList<>();

        boolean is(int bit) {
            return (kind & bit) != 0;
        }
    }

    static final class Component {
        int provides = -1, rank, state = OFF;
        boolean delayed, fails, activating;
        int active, failed, inactive;
        List<Reference> references = new ArrayList<>();
    }

    final List<Service> services = new ArrayList<>();
    final List<Component> components = new ArrayList<>();
    final String[] filters = new String[6];
    final Deque<Service> notes = new ArrayDeque<>();
    String text = "";
    int worked, bindings;

    PlainHall() {
        for (int c = 0; c < 8; c++) {
            components.add(new Component());
        }
    }

    // ---- the calls

    int text(long w) {
        StringBuilder letters = new StringBuilder();
        for (long rest = w; (rest & 255) != 0; rest >>>= 8) {
            letters.append((char) (rest & 255));
        }
        illegal(letters.length() == 0 || letters.chars().anyMatch(l -> l < 33 || l > 126));
        beyond(text.length() + letters.length() > 32);
        text += letters;
        return text.length();
    }

    int filter(int f) {
        String written = text;
        text = "";
        illegal(outside(f, 6) || end(written, 0) != written.length() || written.isEmpty());
        wrongState(components.stream().anyMatch(
                c -> c.state != OFF && c.references.stream().anyMatch(r -> r.filter == f)));
        filters[f] = written;
        return (int) COMPARISON.matcher(written).results().count();
    }

    int register(int i, int rank) {
        illegal(outside(i, 6));
        beyond(services.size() == 50);
        Service made = make(i, rank, null);
        workOff();
        return made.number;
    }

    int withdraw(int s) {
        missing(!thereFromOutside(s));
        gone(services.get(s));
        workOff();
        return services.get(s).uses;
    }

    boolean property(int s, int k, double v, boolean none) {
        missing(!thereFromOutside(s));
        illegal(outside(k, 6));
        boolean before = services.get(s).properties[k] != null;
        services.get(s).properties[k] = none ? null : Double.valueOf(v);
        notes.add(services.get(s));
        workOff();
        return before;
    }

    int describe(int c, int provides, int rank, boolean delayed, boolean fails) {
        illegal(outside(c, 8) || provides != -1 && outside(provides, 6));
        Component described = components.get(c);
        wrongState(described.state != OFF);
        described.provides = provides;
        described.rank = rank;
        described.delayed = provides >= 0 && delayed;
        described.fails = fails;
        described.references.clear();
        return 1;
    }

    int reference(int c, int i, int kind, int f) {
        illegal(outside(c, 8) || outside(i, 6) || outside(kind, 16) || f != -1 && outside(f, 6));
        missing(f >= 0 && filters[f] == null);
        wrongState(components.get(c).state != OFF);
        beyond(components.get(c).references.size() == 3);
        Reference added = new Reference();
        added.face = i;
        added.kind = kind;
        added.filter = f;
        components.get(c).references.add(added);
        return components.get(c).references.size();
    }

    int enable(int c, boolean on) {
        illegal(outside(c, 8));
        Component it = components.get(c);
        if (on && it.state == OFF) {
            it.state = WAITING;
            check(it);
        }
        if (!on && it.state != OFF) {
            stop(it);
            it.state = OFF;
        }
        workOff();
        return it.state;
    }

    int get(int s) {
        missing(outside(s, services.size()) || !services.get(s).there);
        wrongState(!got(services.get(s)));
        services.get(s).outside++;
        return services.get(s).uses;
    }

    int unget(int s) {
        missing(outside(s, services.size()) || services.get(s).outside == 0);
        services.get(s).outside--;
        giveBack(services.get(s));
        return services.get(s).uses;
    }

    int best(int i, int f) {
        illegal(outside(i, 6) || f != -1 && outside(f, 6));
        missing(f >= 0 && filters[f] == null);
        return services.stream().filter(s -> s.there && s.face == i && passes(f, s))
                .min(betterFirst()).orElseThrow(NoSuchElementException::new).number;
    }

    double value(int s, int k) {
        missing(outside(s, services.size()));
        illegal(outside(k, 6));
        missing(services.get(s).properties[k] == null);
        return services.get(s).properties[k];
    }

    int bound(int c, int r, int k) {
        illegal(outside(c, 8));
        List<Reference> references = components.get(c).references;
        beyond(outside(r, references.size()) || outside(k, references.get(r).bound.size()));
        return references.get(r).bound.get(k).number;
    }

    int look(int c, int what) {
        illegal(outside(c, 8) || outside(what, 9));
        Component it = components.get(c);
        int r = what - 6;
        return switch (what) {
            case 0 -> it.state;
            case 1 -> own(it) == null ? -1 : own(it).number;
            case 2 -> it.active;
            case 3 -> it.failed;
            case 4 -> it.inactive;
            case 5 -> it.references.size();
            default -> r < it.references.size() ? it.references.get(r).bound.size() : 0;
        };
    }

    int service(int s, int what) {
        missing(outside(s, services.size()));
        illegal(outside(what, 5));
        Service it = services.get(s);
        return new int[] {it.there ? 1 : 0, it.face, it.rank, components.indexOf(it.from), it.uses}[what];
    }

    int count(int what) {
        illegal(outside(what, 6));
        return new int[] {services.size(), (int) services.stream().filter(s -> s.there).count(), worked,
            (int) components.stream().filter(c -> c.state == ACTIVE).count(), bindings, text.length()}[what];
    }

    // ---- the terms

    private Service make(int face, int rank, Component from) {
        Service made = new Service();
        made.number = services.size();
        made.face = face;
        made.rank = rank;
        made.from = from;
        services.add(made);
        notes.add(made);
        return made;
    }

    private void gone(Service s) {
        s.there = false;
        notes.add(s);
    }

    private Service own(Component c) {
        return services.stream().filter(s -> s.there && s.from == c).findFirst().orElse(null);
    }

    private List<Service> targets(Component c, Reference r) {
        List<Service> targets = new ArrayList<>(services);
        targets.removeIf(s -> !s.there || s.face != r.face || s.from == c || !passes(r.filter, s));
        targets.sort(betterFirst());
        return targets;
    }

    private static Comparator<Service> betterFirst() {
        return (s, t) -> s.rank != t.rank ? Integer.compare(t.rank, s.rank) : Integer.compare(s.number, t.number);
    }

    private boolean got(Service s) {
        if (s.from != null && s.from.delayed && s.from.state == READY) {
            if (s.from.activating || !activate(s.from)) {
                return false;
            }
        }
        s.uses++;
        return true;
    }

    private void giveBack(Service s) {
        s.uses--;
        if (s.uses == 0 && s.there && s.from != null && s.from.delayed && s.from.state == ACTIVE) {
            makeInactive(s.from);
        }
    }

    private void bindBest(Component c, Reference r) {
        for (Service s : targets(c, r)) {
            if ((r.is(2) || r.bound.isEmpty()) && got(s)) {
                r.bound.add(s);
                bindings++;
            }
        }
    }

    private boolean activate(Component c) {
        c.activating = true;
        c.references.forEach(r -> bindBest(c, r));
        c.activating = false;
        if (c.fails || c.references.stream().anyMatch(r -> r.is(1) && r.bound.isEmpty())) {
            giveAllBack(c);
            c.failed++;
            return false;
        }
        c.active++;
        c.state = ACTIVE;
        return true;
    }

    private void giveAllBack(Component c) {
        for (int r = c.references.size() - 1; r >= 0; r--) {
            List<Service> bound = c.references.get(r).bound;
            while (!bound.isEmpty()) {
                giveBack(bound.remove(bound.size() - 1));
            }
        }
    }

    private void makeInactive(Component c) {
        c.state = READY;
        c.inactive++;
        giveAllBack(c);
    }

    private boolean targetMissing(Component c) {
        return c.references.stream().anyMatch(r -> r.is(1) && targets(c, r).isEmpty());
    }

    private void check(Component c) {
        if (targetMissing(c)) {
            return;
        }
        boolean numberLeft = services.size() < 50;
        if (c.delayed) {
            c.state = numberLeft ? READY : BROKEN;
        } else if (!activate(c)) {
            c.state = BROKEN;
            return;
        } else if (c.provides >= 0 && !numberLeft) {
            makeInactive(c);
            c.state = BROKEN;
        }
        if (c.provides >= 0 && numberLeft) {
            make(c.provides, c.rank, c);
        }
    }

    private void stop(Component c) {
        if (c.state == ACTIVE) {
            makeInactive(c);
        }
        if (own(c) != null) {
            gone(own(c));
        }
        c.state = WAITING;
    }

    private void workOff() {
        while (!notes.isEmpty()) {
            Service s = notes.remove();
            for (Component c : components) {
                workOff(c, s);
            }
            worked++;
        }
    }

    private void workOff(Component c, Service s) {
        switch (c.state) {
            case WAITING, BROKEN -> {
                if (c.references.stream().anyMatch(r -> r.face == s.face)) {
                    c.state = WAITING;
                    check(c);
                }
            }
            case READY -> {
                if (targetMissing(c)) {
                    stop(c);
                }
            }
            case ACTIVE -> {
                for (Reference r : c.references) {
                    if (c.state == ACTIVE && stopped(c, r, s)) {
                        return;
                    }
                }
            }
            default -> { }
        }
    }

    private boolean stopped(Component c, Reference r, Service s) {
        boolean target = targets(c, r).contains(s);
        boolean bound = r.bound.contains(s);
        boolean lesserBound = !bound && !r.bound.isEmpty() && betterFirst().compare(s, r.bound.get(0)) < 0;
        boolean stop = false;
        if (bound && !target) {
            if (r.is(4)) {
                giveBack(s);
                r.bound.remove(s);
                if (!r.is(2)) {
                    bindBest(c, r);
                }
            }
            stop = !r.is(4) || r.is(1) && r.bound.isEmpty();
        } else if (!bound && target && r.is(4)) {
            if ((r.is(2) || r.bound.isEmpty()) && got(s)) {
                r.bound.add(s);
                bindings++;
            } else if (!r.is(2) && lesserBound && r.is(8) && got(s)) {
                bindings++;
                giveBack(r.bound.set(0, s));
            }
        } else if (!bound && target) {
            stop = r.is(8) && (r.is(2) || r.bound.isEmpty() || lesserBound);
        }
        if (stop) {
            stop(c);
            check(c);
        }
        return stop;
    }

    // ---- filters

    private boolean passes(int f, Service s) {
        return f < 0 || truth(filters[f], 0, s);
    }

    /** The place behind the filter that begins at a place, -1 if none does. */
    private static int end(String text, int at) {
        Matcher comparison = COMPARISON.matcher(text);
        if (comparison.region(at, text.length()).lookingAt()) {
            return comparison.end();
        }
        if (at + 1 >= text.length() || text.charAt(at) != '(' || "&|!".indexOf(text.charAt(at + 1)) < 0) {
            return -1;
        }
        int parts = 0;
        int next = at + 2;
        while (next >= 0 && next < text.length() && text.charAt(next) == '(') {
            next = end(text, next);
            parts++;
        }
        boolean closed = next >= 0 && next < text.length() && text.charAt(next) == ')';
        return closed && parts > 0 && (parts == 1 || text.charAt(at + 1) != '!') ? next + 1 : -1;
    }

    private static boolean truth(String text, int at, Service s) {
        Matcher m = COMPARISON.matcher(text);
        if (m.region(at, text.length()).lookingAt()) {
            return compared(m, s.properties[m.group(1).charAt(0) - 'a']);
        }
        boolean all = true;
        boolean any = false;
        for (int next = at + 2; text.charAt(next) == '('; next = end(text, next)) {
            boolean part = truth(text, next, s);
            all &= part;
            any |= part;
        }
        return text.charAt(at + 1) == '&' ? all : text.charAt(at + 1) == '|' ? any : !any;
    }

    private static boolean compared(Matcher m, Double property) {
        if (property == null || m.group(3) != null) {
            return property != null;
        }
        String behindDot = m.group(7) == null ? "" : m.group(7);
        double v = Integer.parseInt(m.group(6) + behindDot) / Math.pow(10, behindDot.length());
        v = m.group(5).isEmpty() ? v : -v;
        return m.group(4).equals("=") ? property == v : m.group(4).equals("<=") ? property <= v : property >= v;
    }

    // ---- wrong inputs

    private boolean thereFromOutside(int s) {
        return !outside(s, services.size()) && services.get(s).there && services.get(s).from == null;
    }

    private static boolean outside(int n, int bound) {
        return n < 0 || n >= bound;
    }

    private static void illegal(boolean wrong) {
        if (wrong) {
            throw new IllegalArgumentException();
        }
    }

    private static void missing(boolean wrong) {
        if (wrong) {
            throw new NoSuchElementException();
        }
    }

    private static void wrongState(boolean wrong) {
        if (wrong) {
            throw new IllegalStateException();
        }
    }

    private static void beyond(boolean wrong) {
        if (wrong) {
            throw new IndexOutOfBoundsException();
        }
    }
}
