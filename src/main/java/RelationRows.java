import java.util.NoSuchElementException;

/** Relations among up to forty things, each held as one row of bits a thing. */
public final class RelationRows {
    public static final int NONE = -1;

    private static final int MOST_THINGS = 40;
    private static final int MOST_RELATIONS = 12;
    private static final int LAST_KIND = 3;

    private static final int ONE_TO_ONE = 0;
    private static final int ONE_TO_MANY = 1;
    private static final int MANY_TO_ONE = 2;
    private static final int TWINS = 4;
    private static final int MUTUAL = 5;
    private static final int CLASSES = 6;

    private static final int TURNED = 0;
    private static final int NOT = 1;
    private static final int BOTH = 2;
    private static final int EITHER = 3;
    private static final int THROUGH = 4;
    private static final int FAR = 5;

    /** What told() adds to a condition, so that one number tells forms and conditions apart. */
    private static final int CONDITION_MARK = 10;

    /** No form lets a thing be twice in a place that it clears, so two pairs are the most. */
    private static final int MOST_PUSHED = 2;

    private final int things;
    private final int[] kinds;
    private final int[] tallies;
    private final Relation[] relations;
    private final int[] pushedFirst;
    private final int[] pushedSecond;
    private final int[] steps;
    private int relationCount;
    private int pushedCount;

    /**
     * The rows of the relations below this number hold just now. A condition looks at lesser
     * numbers only, so a change of one relation makes none before it stale.
     */
    private int freshBelow;

    public RelationRows(int things) {
        this.things = Math.max(1, Math.min(MOST_THINGS, things));
        kinds = new int[this.things];
        tallies = new int[this.things * this.things];
        relations = new Relation[MOST_RELATIONS];
        for (int k = 0; k < MOST_RELATIONS; k++) {
            relations[k] = new Relation(this.things);
        }
        pushedFirst = new int[MOST_PUSHED];
        pushedSecond = new int[MOST_PUSHED];
        steps = new int[this.things];
    }

    public int clear() {
        int before = relationCount;
        relationCount = 0;
        pushedCount = 0;
        freshBelow = 0;
        for (int a = 0; a < things; a++) {
            kinds[a] = 0;
        }
        for (int k = 0; k < tallies.length; k++) {
            tallies[k] = 0;
        }
        return before;
    }

    public int kind(int thing, int kind) throws IllegalArgumentException, IllegalStateException {
        needThing(thing);
        if (kind < 0 || kind > LAST_KIND) {
            throw new IllegalArgumentException("no such kind");
        }
        if (relationCount > 0) {
            throw new IllegalStateException("there are relations already");
        }
        int before = kinds[thing];
        kinds[thing] = kind;
        return before;
    }

    public int relation(int form, int first, int second)
            throws IllegalArgumentException, IllegalStateException {
        if (form < ONE_TO_ONE || form > CLASSES) {
            throw new IllegalArgumentException("no such form");
        }
        if (!isKindOrNone(first) || !isKindOrNone(second)) {
            throw new IllegalArgumentException("no such kind");
        }
        if (form >= TWINS && first != second) {
            throw new IllegalArgumentException("this form has like kinds");
        }
        needRoom();
        relations[relationCount].begin(form, first, second);
        relations[relationCount].letGo(kinds);
        relationCount++;
        return relationCount - 1;
    }

    public int condition(int condition, int r, int s)
            throws IllegalArgumentException, IllegalStateException {
        if (condition < TURNED || condition > FAR) {
            throw new IllegalArgumentException("no such condition");
        }
        known(r);
        if (looksAtTwo(condition)) {
            known(s);
        } else if (s != NONE) {
            throw new IllegalArgumentException("this condition is on one relation");
        }
        needRoom();
        relations[relationCount].begin(CONDITION_MARK + condition, r, s);
        relationCount++;
        return relationCount - 1;
    }

    public int set(int relation, int a, int b)
            throws IllegalArgumentException, IllegalStateException {
        Relation held = changeable(relation, a, b);
        tallies[a * things + b]++;
        pushedCount = 0;
        if (!held.holds(a, b)) {
            pushOut(held, a, b);
            held.put(a, b);
            makeStale(relation);
        }
        return pushedCount;
    }

    public boolean drop(int relation, int a, int b)
            throws IllegalArgumentException, IllegalStateException {
        Relation held = changeable(relation, a, b);
        if (!held.holds(a, b) || (held.form == CLASSES && a == b)) {
            return false;
        }
        held.take(a, b);
        makeStale(relation);
        return true;
    }

    public int empty(int relation) throws IllegalArgumentException, IllegalStateException {
        Relation held = known(relation);
        if (held.isByCondition()) {
            throw new IllegalStateException("a relation by a condition");
        }
        int before = held.size();
        held.letGo(kinds);
        makeStale(relation);
        return before - held.size();
    }

    public int pushed(int i, int which) throws IllegalArgumentException, NoSuchElementException {
        if (which < 0 || which > 1) {
            throw new IllegalArgumentException("a pair has things 0 and 1");
        }
        if (i < 0 || i >= pushedCount || i >= MOST_PUSHED) {
            throw new NoSuchElementException("so many were not pushed out");
        }
        return which == 0 ? pushedFirst[i] : pushedSecond[i];
    }

    public boolean has(int relation, int a, int b) throws IllegalArgumentException {
        Relation held = fresh(relation);
        needThing(a);
        needThing(b);
        return held.holds(a, b);
    }

    public int next(int relation, int a, int i)
            throws IllegalArgumentException, NoSuchElementException {
        Relation held = fresh(relation);
        needThing(a);
        return ith(held.rows[a], i);
    }

    public int back(int relation, int b, int i)
            throws IllegalArgumentException, NoSuchElementException {
        Relation held = fresh(relation);
        needThing(b);
        return ith(held.column(b), i);
    }

    public int count(int relation) throws IllegalArgumentException {
        return fresh(relation).size();
    }

    public int length(int relation, int a, int b) throws IllegalArgumentException {
        Relation held = fresh(relation);
        needThing(a);
        needThing(b);
        measureSteps(held, b);
        return steps[a];
    }

    public int route(int relation, int a, int b, int i)
            throws IllegalArgumentException, NoSuchElementException {
        Relation held = fresh(relation);
        needThing(a);
        needThing(b);
        measureSteps(held, b);
        if (i < 0 || i > steps[a]) {
            throw new NoSuchElementException("the route has no such thing");
        }
        int at = a;
        for (int k = 0; k < i; k++) {
            at = firstNearer(held, at);
        }
        return at;
    }

    public int leader(int relation, int a) throws IllegalArgumentException, IllegalStateException {
        Relation held = known(relation);
        needThing(a);
        if (!held.isByCondition() && !isOfKind(a, held.first)) {
            throw new IllegalArgumentException("a thing of another kind");
        }
        if (held.form != CLASSES) {
            throw new IllegalStateException("a relation without classes");
        }
        return leastOf(held.rows[a], 0);
    }

    public int differ(int r, int s) throws IllegalArgumentException {
        Relation one = fresh(r);
        Relation other = fresh(s);
        for (int a = 0; a < things; a++) {
            int b = leastOf(one.rows[a] ^ other.rows[a], 0);
            if (b != NONE) {
                return a * MOST_THINGS + b;
            }
        }
        return NONE;
    }

    public int tally(int a, int b) throws ArrayIndexOutOfBoundsException {
        if (!isThing(a) || !isThing(b)) {
            throw new ArrayIndexOutOfBoundsException("no such thing");
        }
        return tallies[a * things + b];
    }

    public int of(int what) throws IllegalArgumentException {
        switch (what) {
            case 0:
                return things;
            case 1:
                return relationCount;
            case 2:
                return pushedCount;
            default:
                throw new IllegalArgumentException("what is 0, 1 or 2");
        }
    }

    public int told(int relation, int what) throws IllegalArgumentException {
        Relation held = known(relation);
        switch (what) {
            case 0:
                return held.form;
            case 1:
                return held.first;
            case 2:
                return held.second;
            default:
                throw new IllegalArgumentException("what is 0, 1 or 2");
        }
    }

    private boolean isThing(int a) {
        return a >= 0 && a < things;
    }

    private void needThing(int a) {
        if (!isThing(a)) {
            throw new IllegalArgumentException("no such thing");
        }
    }

    private static boolean isKindOrNone(int kind) {
        return kind >= NONE && kind <= LAST_KIND;
    }

    private boolean isOfKind(int a, int kind) {
        return kind == NONE || kinds[a] == kind;
    }

    private static boolean looksAtTwo(int condition) {
        return condition == BOTH || condition == EITHER || condition == THROUGH;
    }

    private void needRoom() {
        if (relationCount >= MOST_RELATIONS) {
            throw new IllegalStateException("there are twelve relations");
        }
    }

    private Relation known(int relation) {
        if (relation < 0 || relation >= relationCount || relation >= MOST_RELATIONS) {
            throw new IllegalArgumentException("no such relation");
        }
        return relations[relation];
    }

    /** The relation, if (a, b) can be set and dropped in it. */
    private Relation changeable(int relation, int a, int b) {
        Relation held = known(relation);
        needThing(a);
        needThing(b);
        // A condition's first and second are relations, so kinds must not be read from them.
        if (held.isByCondition()) {
            throw new IllegalStateException("a relation by a condition");
        }
        if (!isOfKind(a, held.first) || !isOfKind(b, held.second)) {
            throw new IllegalArgumentException("the pair does not fit");
        }
        if (held.form == TWINS && a == b) {
            throw new IllegalArgumentException("no thing is its own twin");
        }
        return held;
    }

    private void pushOut(Relation held, int a, int b) {
        switch (held.form) {
            case ONE_TO_ONE:
                pushOutFrom(held, a);
                pushOutTo(held, b);
                break;
            case ONE_TO_MANY:
                pushOutTo(held, b);
                break;
            case MANY_TO_ONE:
                pushOutFrom(held, a);
                break;
            case TWINS:
                pushOutFrom(held, a);
                pushOutFrom(held, b);
                break;
            default:
                break;
        }
    }

    private void pushOutFrom(Relation held, int a) {
        int x = leastOf(held.rows[a], 0);
        if (x != NONE) {
            pushOutPair(held, a, x);
        }
    }

    private void pushOutTo(Relation held, int b) {
        int x = leastOf(held.column(b), 0);
        if (x != NONE) {
            pushOutPair(held, x, b);
        }
    }

    private void pushOutPair(Relation held, int a, int b) {
        held.take(a, b);
        if (pushedCount < MOST_PUSHED) {
            pushedFirst[pushedCount] = a;
            pushedSecond[pushedCount] = b;
            pushedCount++;
        }
    }

    private void makeStale(int relation) {
        freshBelow = Math.min(freshBelow, relation + 1);
    }

    /** The relation, with rows that hold just now. */
    private Relation fresh(int relation) {
        Relation held = known(relation);
        for (int k = freshBelow; k <= relation; k++) {
            deriveIfByCondition(relations[k]);
        }
        freshBelow = Math.max(freshBelow, relation + 1);
        return held;
    }

    private void deriveIfByCondition(Relation held) {
        if (!held.isByCondition()) {
            return;
        }
        Relation r = known(held.first);
        // Where one relation is enough r stands in for s, which is not looked at.
        Relation s = held.second == NONE ? r : known(held.second);
        held.derive(r, s);
    }

    /** The i-th thing of a row of bits; the caller is told where there is none. */
    private int ith(long row, int i) {
        int found = i < 0 ? NONE : leastOf(row, i);
        if (found == NONE) {
            throw new NoSuchElementException("there are not so many");
        }
        return found;
    }

    /** The least thing of a row of bits after so many others, or NONE. */
    private int leastOf(long row, int others) {
        int left = others;
        for (int x = 0; x < things; x++) {
            if (Relation.isIn(row, x)) {
                if (left == 0) {
                    return x;
                }
                left--;
            }
        }
        return NONE;
    }

    /**
     * Fills steps with the least steps from each thing to b. Measured from b backwards, so that a
     * route can be walked from its front by the least thing that is one step nearer.
     */
    private void measureSteps(Relation held, int b) {
        for (int x = 0; x < things; x++) {
            steps[x] = NONE;
        }
        steps[b] = 0;
        long edge = Relation.bit(b);
        for (int far = 1; far < things && edge != 0; far++) {
            long reached = 0;
            for (int x = 0; x < things; x++) {
                if (steps[x] == NONE && (held.rows[x] & edge) != 0) {
                    steps[x] = far;
                    reached |= Relation.bit(x);
                }
            }
            edge = reached;
        }
    }

    private int firstNearer(Relation held, int at) {
        for (int x = 0; x < things; x++) {
            if (held.holds(at, x) && steps[x] == steps[at] - 1) {
                return x;
            }
        }
        return at;
    }

    /** One relation: bit b of row a says whether (a, b) is a pair. */
    private static final class Relation {
        private final long[] rows;
        private int form;
        private int first;
        private int second;

        Relation(int things) {
            rows = new long[things];
        }

        static long bit(int x) {
            return 1L << x;
        }

        static boolean isIn(long row, int x) {
            return (row & bit(x)) != 0;
        }

        void begin(int newForm, int newFirst, int newSecond) {
            form = newForm;
            first = newFirst;
            second = newSecond;
        }

        boolean isByCondition() {
            return form >= CONDITION_MARK;
        }

        private boolean isTwoWay() {
            return form == TWINS || form == MUTUAL;
        }

        boolean holds(int a, int b) {
            return isIn(rows[a], b);
        }

        long column(int b) {
            long found = 0;
            for (int a = 0; a < rows.length; a++) {
                if (holds(a, b)) {
                    found |= bit(a);
                }
            }
            return found;
        }

        int size() {
            int pairs = 0;
            for (int a = 0; a < rows.length; a++) {
                pairs += Long.bitCount(rows[a]);
            }
            return pairs;
        }

        /** All pairs that can go do: a thing of a class stays with itself. */
        void letGo(int[] kinds) {
            for (int a = 0; a < rows.length && a < kinds.length; a++) {
                boolean stays = form == CLASSES && (first == NONE || kinds[a] == first);
                rows[a] = stays ? bit(a) : 0;
            }
        }

        void put(int a, int b) {
            if (form == CLASSES) {
                mergeClasses(rows[a] | rows[b]);
                return;
            }
            rows[a] |= bit(b);
            if (isTwoWay()) {
                rows[b] |= bit(a);
            }
        }

        private void mergeClasses(long all) {
            for (int x = 0; x < rows.length; x++) {
                if (isIn(all, x)) {
                    rows[x] = all;
                }
            }
        }

        void take(int a, int b) {
            if (form == CLASSES) {
                leaveClass(a);
                return;
            }
            rows[a] &= ~bit(b);
            if (isTwoWay()) {
                rows[b] &= ~bit(a);
            }
        }

        private void leaveClass(int a) {
            for (int x = 0; x < rows.length; x++) {
                rows[x] &= ~bit(a);
            }
            rows[a] = bit(a);
        }

        /** Rows by this relation's condition on others, which have as many things. */
        void derive(Relation r, Relation s) {
            for (int a = 0; a < rows.length; a++) {
                rows[a] = derivedRow(r, s, a);
            }
            if (form == CONDITION_MARK + FAR) {
                closeRows();
            }
        }

        private long derivedRow(Relation r, Relation s, int a) {
            switch (form - CONDITION_MARK) {
                case TURNED:
                    return r.column(a);
                case NOT:
                    return ~r.rows[a] & (bit(rows.length) - 1);
                case BOTH:
                    return r.rows[a] & s.rows[a];
                case EITHER:
                    return r.rows[a] | s.rows[a];
                case THROUGH:
                    return s.rowsTogether(r.rows[a]);
                default:
                    return r.rows[a];
            }
        }

        private long rowsTogether(long which) {
            long together = 0;
            for (int c = 0; c < rows.length; c++) {
                if (isIn(which, c)) {
                    together |= rows[c];
                }
            }
            return together;
        }

        /** Adds what is reached through each thing in turn, which leaves rows closed under steps. */
        private void closeRows() {
            for (int c = 0; c < rows.length; c++) {
                for (int a = 0; a < rows.length; a++) {
                    if (isIn(rows[a], c)) {
                        rows[a] |= rows[c];
                    }
                }
            }
        }
    }
}
