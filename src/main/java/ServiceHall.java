import java.util.NoSuchElementException;

/**
 * A runtime of components over services that come and go. What each call promises stands in
 * DOC.md; the words in capitals there are the names used here, but that INTERFACE is "face",
 * since Java keeps the other word for itself.
 */
public final class ServiceHall {
    public static final int OFF = 0, WAITING = 1, READY = 2, ACTIVE = 3, BROKEN = 4;

    private static final int NONE = -1;
    private static final int FACES = 6;
    private static final int FILTERS = 6;
    private static final int PROPERTIES = 6;
    private static final int SERVICES = 50;
    private static final int COMPONENTS = 8;
    private static final int REFERENCES = 3;
    private static final int LETTERS = 32;
    private static final int KINDS = 16;

    /** A call sets one property at most, and each number is registered and withdrawn once. */
    private static final int NOTES = 2 * SERVICES + 1;

    private final Service[] services = new Service[SERVICES];
    /** The services so far with the better ones first: a rank never changes, so neither does the order. */
    private final Service[] ranked = new Service[SERVICES];
    private int serviceCount;

    private final Component[] components = new Component[COMPONENTS];

    private final Writing writing = new Writing();
    private final Filter[] filters = new Filter[FILTERS];
    /** What is read goes here first, so that a text that is no filter leaves the old one whole. */
    private Filter draft = new Filter();

    private final int[] notes = new int[NOTES];
    private int noteCount;
    private int notesWorkedOff;
    private int bindings;

    public ServiceHall() {
        for (int s = 0; s < SERVICES; s++) {
            services[s] = new Service(s);
            ranked[s] = services[s];
        }
        for (int c = 0; c < COMPONENTS; c++) {
            components[c] = new Component(c);
        }
        for (int f = 0; f < FILTERS; f++) {
            filters[f] = new Filter();
        }
    }

    // ---- the face: each call looks at its arguments, and has the notes worked off before it answers

    public int text(long w) throws IllegalArgumentException, IndexOutOfBoundsException {
        int added = Writing.lettersIn(w);
        if (added <= 0) {
            throw new IllegalArgumentException("no letters, or one that is not 33..126");
        }
        if (writing.length + added > LETTERS) {
            throw new IndexOutOfBoundsException("more than 32 letters");
        }
        writing.append(w, added);
        return writing.length;
    }

    public int filter(int f) throws IllegalArgumentException, IllegalStateException {
        boolean wellFormed = writing.readInto(draft);
        writing.length = 0;
        if (!isBelow(f, FILTERS) || !wellFormed) {
            throw new IllegalArgumentException("no such number, or the text is no filter");
        }
        if (isInUse(f)) {
            throw new IllegalStateException("a component that is not off has it");
        }
        Filter old = filters[f];
        filters[f] = draft;
        draft = old;
        return filters[f].comparisons;
    }

    public int register(int i, int rank) throws IllegalArgumentException, IndexOutOfBoundsException {
        if (!isBelow(i, FACES)) {
            throw new IllegalArgumentException("no such interface");
        }
        int s = addService(i, rank, NONE);
        if (s == NONE) {
            throw new IndexOutOfBoundsException("no number left");
        }
        workOffNotes();
        return s;
    }

    public int withdraw(int s) throws NoSuchElementException {
        if (!isThereFromOutside(s)) {
            throw new NoSuchElementException("not there, or not from outside");
        }
        takeAway(services[s]);
        workOffNotes();
        return services[s].uses;
    }

    public boolean property(int s, int k, double v, boolean none)
            throws NoSuchElementException, IllegalArgumentException {
        if (!isThereFromOutside(s)) {
            throw new NoSuchElementException("not there, or not from outside");
        }
        if (!isBelow(k, PROPERTIES)) {
            throw new IllegalArgumentException("no such property");
        }
        Service changed = services[s];
        boolean before = changed.has[k];
        changed.has[k] = !none;
        changed.values[k] = v;
        addNote(changed);
        workOffNotes();
        return before;
    }

    public int describe(int c, int provides, int rank, boolean delayed, boolean fails)
            throws IllegalArgumentException, IllegalStateException {
        if (!isBelow(c, COMPONENTS) || !isNoneOrBelow(provides, FACES)) {
            throw new IllegalArgumentException("no such component or interface");
        }
        Component described = components[c];
        if (described.state != OFF) {
            throw new IllegalStateException("not off");
        }
        described.provides = provides;
        described.rank = rank;
        described.delayed = delayed && provides != NONE;
        described.fails = fails;
        described.referenceCount = 0;
        return 1;
    }

    public int reference(int c, int i, int kind, int f)
            throws IllegalArgumentException, NoSuchElementException, IllegalStateException,
            IndexOutOfBoundsException {
        if (!isBelow(c, COMPONENTS) || !isBelow(i, FACES) || !isBelow(kind, KINDS)
                || !isNoneOrBelow(f, FILTERS)) {
            throw new IllegalArgumentException("no such component, interface, kind or filter");
        }
        if (f != NONE && !filters[f].isWritten()) {
            throw new NoSuchElementException("no such filter");
        }
        Component owner = components[c];
        if (owner.state != OFF) {
            throw new IllegalStateException("not off");
        }
        if (owner.referenceCount >= REFERENCES) {
            throw new IndexOutOfBoundsException("it has 3");
        }
        owner.references[owner.referenceCount].become(i, kind, f);
        owner.referenceCount++;
        return owner.referenceCount;
    }

    public int enable(int c, boolean on) throws IllegalArgumentException {
        if (!isBelow(c, COMPONENTS)) {
            throw new IllegalArgumentException("no such component");
        }
        Component switched = components[c];
        if (on && switched.state == OFF) {
            switched.state = WAITING;
            check(switched);
        } else if (!on && switched.state != OFF) {
            stop(switched);
            switched.state = OFF;
        }
        workOffNotes();
        return switched.state;
    }

    public int get(int s) throws NoSuchElementException, IllegalStateException {
        if (!isBelow(s, serviceCount) || !services[s].there) {
            throw new NoSuchElementException("not there");
        }
        Service wanted = services[s];
        if (!acquire(wanted)) {
            throw new IllegalStateException("it can't be got");
        }
        wanted.usesFromOutside++;
        return wanted.uses;
    }

    public int unget(int s) throws NoSuchElementException {
        if (!isBelow(s, serviceCount) || services[s].usesFromOutside == 0) {
            throw new NoSuchElementException("not got from outside");
        }
        services[s].usesFromOutside--;
        giveBack(services[s]);
        return services[s].uses;
    }

    public int best(int i, int f) throws IllegalArgumentException, NoSuchElementException {
        if (!isBelow(i, FACES) || !isNoneOrBelow(f, FILTERS)) {
            throw new IllegalArgumentException("no such interface or filter");
        }
        int found = NONE;
        if (f == NONE || filters[f].isWritten()) {
            found = bestOf(i, f);
        }
        if (found == NONE) {
            throw new NoSuchElementException("no such service, or no such filter");
        }
        return found;
    }

    public double value(int s, int k) throws NoSuchElementException, IllegalArgumentException {
        if (!isBelow(s, serviceCount)) {
            throw new NoSuchElementException("no such service");
        }
        if (!isBelow(k, PROPERTIES)) {
            throw new IllegalArgumentException("no such property");
        }
        if (!services[s].has[k]) {
            throw new NoSuchElementException("it has none");
        }
        return services[s].values[k];
    }

    public int bound(int c, int r, int k) throws IllegalArgumentException, IndexOutOfBoundsException {
        if (!isBelow(c, COMPONENTS)) {
            throw new IllegalArgumentException("no such component");
        }
        if (!isBelow(k, components[c].boundFor(r))) {
            throw new IndexOutOfBoundsException("there is none");
        }
        return components[c].references[r].row[k].number;
    }

    public int look(int c, int what) throws IllegalArgumentException {
        if (!isBelow(c, COMPONENTS)) {
            throw new IllegalArgumentException("no such component");
        }
        Component seen = components[c];
        switch (what) {
            case 0: return seen.state;
            case 1: return seen.offered;
            case 2: return seen.activations;
            case 3: return seen.failures;
            case 4: return seen.deactivations;
            case 5: return seen.referenceCount;
            case 6:
            case 7:
            case 8: return seen.boundFor(what - 6);
            default: throw new IllegalArgumentException("nothing to look at");
        }
    }

    public int service(int s, int what) throws NoSuchElementException, IllegalArgumentException {
        if (!isBelow(s, serviceCount)) {
            throw new NoSuchElementException("no such service");
        }
        Service seen = services[s];
        switch (what) {
            case 0: return seen.there ? 1 : 0;
            case 1: return seen.face;
            case 2: return seen.rank;
            case 3: return seen.source;
            case 4: return seen.uses;
            default: throw new IllegalArgumentException("nothing to tell");
        }
    }

    public int count(int what) throws IllegalArgumentException {
        switch (what) {
            case 0: return serviceCount;
            case 1: return servicesThere();
            case 2: return notesWorkedOff;
            case 3: return componentsActive();
            case 4: return bindings;
            case 5: return writing.length;
            default: throw new IllegalArgumentException("nothing to count");
        }
    }

    // ---- what the face asks

    private static boolean isBelow(int number, int bound) {
        return number >= 0 && number < bound;
    }

    private static boolean isNoneOrBelow(int number, int bound) {
        return number == NONE || isBelow(number, bound);
    }

    private boolean isThereFromOutside(int s) {
        return isBelow(s, serviceCount) && services[s].there && services[s].source == NONE;
    }

    private boolean isInUse(int f) {
        for (int c = 0; c < COMPONENTS; c++) {
            if (components[c].state != OFF && components[c].hasFilter(f)) {
                return true;
            }
        }
        return false;
    }

    private int bestOf(int face, int f) {
        for (int n = 0; n < serviceCount; n++) {
            Service candidate = ranked[n];
            if (candidate.isThereWith(face) && (f == NONE || filters[f].holds(candidate))) {
                return candidate.number;
            }
        }
        return NONE;
    }

    private int servicesThere() {
        int there = 0;
        for (int s = 0; s < serviceCount; s++) {
            if (services[s].there) {
                there++;
            }
        }
        return there;
    }

    private int componentsActive() {
        int active = 0;
        for (int c = 0; c < COMPONENTS; c++) {
            if (components[c].state == ACTIVE) {
                active++;
            }
        }
        return active;
    }

    // ---- services come and go

    /** The number of the new service, NONE if there is no number left. */
    private int addService(int face, int rank, int source) {
        if (serviceCount >= SERVICES) {
            return NONE;
        }
        Service added = services[serviceCount];
        added.face = face;
        added.rank = rank;
        added.source = source;
        added.there = true;
        int place = serviceCount;
        for (; place > 0 && ranked[place - 1].rank < rank; place--) {
            ranked[place] = ranked[place - 1];
        }
        ranked[place] = added;
        serviceCount++;
        addNote(added);
        return added.number;
    }

    private void takeAway(Service gone) {
        gone.there = false;
        if (gone.source != NONE) {
            components[gone.source].offered = NONE;
        }
        addNote(gone);
    }

    private void addNote(Service noted) {
        if (noteCount < NOTES) {
            notes[noteCount] = noted.number;
            noteCount++;
        }
    }

    /** Working off a note may add further ones behind it, which this loop reaches too. */
    private void workOffNotes() {
        for (int n = 0; n < noteCount && n < NOTES; n++) {
            Service noted = services[notes[n]];
            for (int c = 0; c < COMPONENTS; c++) {
                react(components[c], noted);
            }
            notesWorkedOff++;
        }
        noteCount = 0;
    }

    private void react(Component c, Service noted) {
        if (c.state == WAITING || c.state == BROKEN) {
            if (c.refersTo(noted.face)) {
                c.state = WAITING;
                check(c);
            }
        } else if (c.state == READY) {
            if (!hasAllTargets(c)) {
                stop(c);
            }
        } else if (c.state == ACTIVE) {
            boolean restart = false;
            for (int r = 0; r < c.referenceCount && c.state == ACTIVE && !restart; r++) {
                restart = mustRestart(c, c.references[r], noted);
            }
            if (restart) {
                stop(c);
                check(c);
            }
        }
    }

    /** Changes what is bound where the reference bears that; true where the component must be made anew. */
    private boolean mustRestart(Component c, Reference r, Service noted) {
        boolean target = isTarget(c, r, noted);
        int place = r.placeOf(noted);
        if (place != NONE && !target) {
            if (!r.dynamic) {
                return true;
            }
            giveBack(r.removeAt(place));
            if (!r.many) {
                bindTargets(c, r);
            }
            return r.lacksOne();
        }
        if (place == NONE && target) {
            if (!r.dynamic) {
                return r.greedy && r.hasUseFor(noted);
            }
            takeUp(r, noted);
        }
        return false;
    }

    private void takeUp(Reference r, Service fresh) {
        if (r.many || r.rowLength == 0) {
            if (acquire(fresh)) {
                bind(r, fresh);
            }
        } else if (r.greedy && r.hasUseFor(fresh) && acquire(fresh)) {
            // Giving the other one back may make this very component inactive: the row must be right by then.
            Service other = r.removeAt(0);
            bind(r, fresh);
            giveBack(other);
        }
    }

    // ---- targets

    private boolean isTarget(Component c, Reference r, Service s) {
        return s.isThereWith(r.face) && s.source != c.number
                && (r.filter == NONE || filters[r.filter].holds(s));
    }

    private boolean hasTarget(Component c, Reference r) {
        for (int s = 0; s < serviceCount; s++) {
            if (isTarget(c, r, services[s])) {
                return true;
            }
        }
        return false;
    }

    private boolean hasAllTargets(Component c) {
        for (int r = 0; r < c.referenceCount; r++) {
            if (c.references[r].atLeastOne && !hasTarget(c, c.references[r])) {
                return false;
            }
        }
        return true;
    }

    // ---- getting and giving back

    /** False if it can't be got. Each level below marks one component more, so there are eight at most. */
    private boolean acquire(Service s) {
        if (s.source != NONE) {
            Component maker = components[s.source];
            if (maker.delayed && maker.state == READY && (maker.activating || !activate(maker))) {
                return false;
            }
        }
        s.uses++;
        return true;
    }

    /** A component is no more active before it gives back, so that eight levels are the most here too. */
    private void giveBack(Service s) {
        s.uses--;
        if (s.uses == 0 && s.there && s.source != NONE) {
            Component maker = components[s.source];
            if (maker.delayed && maker.state == ACTIVE) {
                makeInactive(maker);
            }
        }
    }

    private void bind(Reference r, Service s) {
        r.append(s);
        bindings++;
    }

    private void bindTargets(Component c, Reference r) {
        for (int n = 0; n < serviceCount && (r.many || r.rowLength == 0); n++) {
            if (isTarget(c, r, ranked[n]) && acquire(ranked[n])) {
                bind(r, ranked[n]);
            }
        }
    }

    private void giveBackAll(Component c) {
        for (int r = c.referenceCount - 1; r >= 0; r--) {
            Reference held = c.references[r];
            for (int k = held.rowLength - 1; k >= 0; k--) {
                giveBack(held.removeAt(k));
            }
        }
    }

    // ---- components come and go

    /** The document names no end before the last reference: all are bound, then it is seen if that works. */
    private boolean activate(Component c) {
        boolean works = !c.fails;
        c.activating = true;
        for (int r = 0; r < c.referenceCount; r++) {
            bindTargets(c, c.references[r]);
            works = works && !c.references[r].lacksOne();
        }
        c.activating = false;
        if (works) {
            c.state = ACTIVE;
            c.activations++;
        } else {
            giveBackAll(c);
            c.failures++;
        }
        return works;
    }

    private void makeInactive(Component c) {
        c.state = READY;
        c.deactivations++;
        giveBackAll(c);
    }

    private void check(Component c) {
        if (!hasAllTargets(c)) {
            return;
        }
        if (c.delayed) {
            c.state = offer(c) ? READY : BROKEN;
        } else if (!activate(c)) {
            c.state = BROKEN;
        } else if (c.provides != NONE && !offer(c)) {
            makeInactive(c);
            c.state = BROKEN;
        }
    }

    /** False if there is no number left. */
    private boolean offer(Component c) {
        c.offered = addService(c.provides, c.rank, c.number);
        return c.offered != NONE;
    }

    private void stop(Component c) {
        if (c.state == ACTIVE) {
            makeInactive(c);
        }
        if (c.offered != NONE) {
            takeAway(services[c.offered]);
        }
        c.state = WAITING;
    }

    private static final class Service {
        final int number;
        int face;
        int rank;
        /** The component it comes from, NONE from outside. */
        int source = NONE;
        boolean there;
        int uses;
        int usesFromOutside;
        final boolean[] has = new boolean[PROPERTIES];
        final double[] values = new double[PROPERTIES];

        Service(int number) {
            this.number = number;
        }

        boolean isThereWith(int wanted) {
            return there && face == wanted;
        }

        boolean isBetterThan(Service other) {
            return rank > other.rank || (rank == other.rank && number < other.number);
        }
    }

    private static final class Component {
        final int number;
        int provides = NONE;
        int rank;
        boolean delayed;
        boolean fails;
        int state = OFF;
        boolean activating;
        /** Its service that is there. */
        int offered = NONE;
        final Reference[] references = new Reference[REFERENCES];
        int referenceCount;
        int activations;
        int failures;
        int deactivations;

        Component(int number) {
            this.number = number;
            for (int r = 0; r < REFERENCES; r++) {
                references[r] = new Reference();
            }
        }

        boolean refersTo(int face) {
            for (int r = 0; r < referenceCount; r++) {
                if (references[r].face == face) {
                    return true;
                }
            }
            return false;
        }

        boolean hasFilter(int f) {
            for (int r = 0; r < referenceCount; r++) {
                if (references[r].filter == f) {
                    return true;
                }
            }
            return false;
        }

        int boundFor(int r) {
            return isBelow(r, referenceCount) ? references[r].rowLength : 0;
        }
    }

    private static final class Reference {
        private static final int AT_LEAST_ONE = 1, MANY = 2, DYNAMIC = 4, GREEDY = 8;

        int face;
        boolean atLeastOne;
        boolean many;
        boolean dynamic;
        boolean greedy;
        int filter = NONE;
        /** The bound ones; a service is bound once at most, so the row never runs over. */
        final Service[] row = new Service[SERVICES];
        int rowLength;

        void become(int newFace, int kind, int newFilter) {
            face = newFace;
            atLeastOne = (kind & AT_LEAST_ONE) != 0;
            many = (kind & MANY) != 0;
            dynamic = (kind & DYNAMIC) != 0;
            greedy = (kind & GREEDY) != 0;
            filter = newFilter;
        }

        boolean lacksOne() {
            return atLeastOne && rowLength == 0;
        }

        boolean hasUseFor(Service fresh) {
            return many || rowLength == 0 || fresh.isBetterThan(row[0]);
        }

        int placeOf(Service s) {
            for (int k = 0; k < rowLength; k++) {
                if (row[k] == s) {
                    return k;
                }
            }
            return NONE;
        }

        void append(Service s) {
            if (rowLength < SERVICES) {
                row[rowLength] = s;
                rowLength++;
            }
        }

        Service removeAt(int place) {
            Service removed = row[place];
            rowLength--;
            for (int k = place; k < rowLength; k++) {
                row[k] = row[k + 1];
            }
            return removed;
        }
    }

    /** A filter as nodes in the order of its text: the parts of a node stand behind it and name it as theirs. */
    private static final class Filter {
        static final int ALL = 0, ANY = 1, NOT = 2, EQUAL = 3, AT_MOST = 4, AT_LEAST = 5, PRESENT = 6;

        /** Each node takes two letters of the text or more. */
        private static final int NODES = LETTERS / 2;

        int size;
        int comparisons;
        final int[] kind = new int[NODES];
        final int[] whole = new int[NODES];
        final int[] letter = new int[NODES];
        final double[] number = new double[NODES];
        private final boolean[] allTrue = new boolean[NODES];
        private final boolean[] anyTrue = new boolean[NODES];

        boolean isWritten() {
            return size > 0;
        }

        void clear() {
            size = 0;
            comparisons = 0;
        }

        /** The new node, NONE if there is no room. */
        int addNode(int newKind, int partOf) {
            if (size >= NODES) {
                return NONE;
            }
            kind[size] = newKind;
            whole[size] = partOf;
            size++;
            return size - 1;
        }

        /** From the last node to the first, so that the parts of a node are known before it is looked at. */
        boolean holds(Service s) {
            boolean truth = false;
            for (int n = 0; n < size; n++) {
                allTrue[n] = true;
                anyTrue[n] = false;
            }
            for (int n = size - 1; n >= 0; n--) {
                int k = letter[n];
                switch (kind[n]) {
                    case ALL: truth = allTrue[n]; break;
                    case ANY: truth = anyTrue[n]; break;
                    case NOT: truth = !anyTrue[n]; break;
                    case EQUAL: truth = s.has[k] && s.values[k] == number[n]; break;
                    case AT_MOST: truth = s.has[k] && s.values[k] <= number[n]; break;
                    case AT_LEAST: truth = s.has[k] && s.values[k] >= number[n]; break;
                    default: truth = s.has[k]; break;
                }
                if (whole[n] != NONE) {
                    allTrue[whole[n]] = allTrue[whole[n]] && truth;
                    anyTrue[whole[n]] = anyTrue[whole[n]] || truth;
                }
            }
            return truth;
        }
    }

    /** The text that is written, and the reading of it as a filter. */
    private static final class Writing {
        private static final int OCTETS = 8;
        private static final int FIRST_LETTER = 33, LAST_LETTER = 126;
        private static final int DIGITS = 4, DIGITS_BEHIND_DOT = 3;

        final char[] letters = new char[LETTERS];
        int length;
        private int at;

        /** How many letters the octets hold, NONE if one is not allowed. */
        static int lettersIn(long w) {
            for (int n = 0; n < OCTETS; n++) {
                int octet = octetOf(w, n);
                if (octet == 0) {
                    return n;
                }
                if (octet < FIRST_LETTER || octet > LAST_LETTER) {
                    return NONE;
                }
            }
            return OCTETS;
        }

        private static int octetOf(long w, int n) {
            return (int) (w >>> (8 * n)) & 255;
        }

        void append(long w, int added) {
            for (int n = 0; n < added && length < LETTERS; n++) {
                letters[length] = (char) octetOf(w, n);
                length++;
            }
        }

        boolean readInto(Filter into) {
            into.clear();
            at = 0;
            return readPart(into, NONE, 0) && at == length;
        }

        /** Each level takes a letter or more, so a depth beyond the letters is never asked for. */
        private boolean readPart(Filter into, int whole, int depth) {
            if (depth > LETTERS || !take('(')) {
                return false;
            }
            int kind = takeKind();
            int node = into.addNode(kind, whole);
            if (node == NONE) {
                return false;
            }
            boolean read;
            if (kind == Filter.PRESENT) {
                read = readComparison(into, node);
            } else if (kind == Filter.NOT) {
                read = readPart(into, node, depth + 1);
            } else {
                read = readParts(into, node, depth + 1);
            }
            return read && take(')');
        }

        /** What is not & or | or ! can only be a comparison: which one shows behind its property. */
        private int takeKind() {
            if (take('&')) {
                return Filter.ALL;
            }
            if (take('|')) {
                return Filter.ANY;
            }
            return take('!') ? Filter.NOT : Filter.PRESENT;
        }

        private boolean readParts(Filter into, int node, int depth) {
            int parts = 0;
            while (parts < LETTERS && sees('(')) {
                if (!readPart(into, node, depth)) {
                    return false;
                }
                parts++;
            }
            return parts > 0;
        }

        private boolean readComparison(Filter into, int node) {
            if (at >= length || letters[at] < 'a' || letters[at] >= 'a' + PROPERTIES) {
                return false;
            }
            into.letter[node] = letters[at] - 'a';
            into.comparisons++;
            at++;
            if (take('=')) {
                return take('*') || readNumber(into, node, Filter.EQUAL);
            }
            if (take('<')) {
                return take('=') && readNumber(into, node, Filter.AT_MOST);
            }
            return take('>') && take('=') && readNumber(into, node, Filter.AT_LEAST);
        }

        private boolean readNumber(Filter into, int node, int kind) {
            boolean negative = take('-');
            int digits = 0;
            int divisor = 1;
            int start = at;
            for (int n = 0; n < DIGITS && seesDigit(); n++) {
                digits = digits * 10 + (letters[at] - '0');
                at++;
            }
            boolean read = at > start;
            if (take('.')) {
                for (int n = 0; n < DIGITS_BEHIND_DOT && seesDigit(); n++) {
                    digits = digits * 10 + (letters[at] - '0');
                    divisor = divisor * 10;
                    at++;
                }
                read = read && divisor > 1;
            }
            into.kind[node] = kind;
            into.number[node] = (double) (negative ? -digits : digits) / (double) divisor;
            return read;
        }

        private boolean sees(char wanted) {
            return at < length && letters[at] == wanted;
        }

        private boolean seesDigit() {
            return at < length && letters[at] >= '0' && letters[at] <= '9';
        }

        private boolean take(char wanted) {
            boolean seen = sees(wanted);
            if (seen) {
                at++;
            }
            return seen;
        }
    }
}
