import java.util.ArrayDeque;
import java.util.ArrayList;
import java.util.Arrays;
import java.util.List;
import java.util.Map;
import java.util.TreeMap;

/**
 * Worlds of two to four things: each set of pairs that a relation can come to (many to many among
 * three things at most), and in it each call. What is due is no run of steps, as in ModelTest, but what the document says
 * of the pairs before and behind a call. Pair (a, b) is bit a * things + b of a set of pairs.
 */
public final class SmallWorldsTest {
    private static final Due due = new Due();
    private static final int NONE = RelationRows.NONE;

    public static void main(String[] args) {
        for (int form = 0; form <= 6; form++) {
            everyState(form, NONE, NONE, 0, 0, 0);
            everyState(form, 0, 0, 0, 1, 0);
            if (form <= 3) {
                everyState(form, 0, 1, 0, 1, 0);
                everyState(form, NONE, 1, 1, 0, 1);
                everyState(form, 2, NONE, 2, 2, 0);
            }
            if (form != 3) {
                everyState(form, NONE, NONE, 0, 0, 0, 0);
            }
        }
        everyRoute();
        everyTwo(2, 1);
        everyTwo(3, 7);
        everyConditionJustThen();
        due.end();
    }

    /** One relation of a form in a world, and what the document says of it. */
    private record World(int form, int first, int second, int[] kinds) {
        int things() {
            return kinds.length;
        }

        long bit(int a, int b) {
            return 1L << (a * things() + b);
        }

        boolean isIn(long pairs, int a, int b) {
            return (pairs & bit(a, b)) != 0;
        }

        boolean fits(int a, int b) {
            return (first == NONE || kinds[a] == first) && (second == NONE || kinds[b] == second);
        }

        boolean refuses(int a, int b) {
            return !fits(a, b) || (form == 4 && a == b);
        }

        RelationRows made() {
            RelationRows x = new RelationRows(things());
            for (int a = 0; a < things(); a++) {
                x.kind(a, kinds[a]);
            }
            x.relation(form, first, second);
            return x;
        }

        long atFirst() {
            long pairs = 0;
            for (int a = 0; a < things() && form == 6; a++) {
                pairs |= fits(a, a) ? bit(a, a) : 0;
            }
            return pairs;
        }

        int timesFirst(long pairs, int a) {
            int times = 0;
            for (int x = 0; x < things(); x++) {
                times += isIn(pairs, a, x) ? 1 : 0;
            }
            return times;
        }

        int timesSecond(long pairs, int b) {
            int times = 0;
            for (int x = 0; x < things(); x++) {
                times += isIn(pairs, x, b) ? 1 : 0;
            }
            return times;
        }

        /** Whether the sentences on its form allow these pairs. */
        boolean allows(long pairs) {
            for (int a = 0; a < things(); a++) {
                boolean twiceFirst = timesFirst(pairs, a) > 1;
                boolean twiceSecond = timesSecond(pairs, a) > 1;
                if ((twiceFirst && (form == 0 || form == 2 || form == 4)) || (twiceSecond && form <= 1)) {
                    return false;
                }
                if (form == 6 && fits(a, a) != isIn(pairs, a, a)) {
                    return false;
                }
                for (int b = 0; b < things(); b++) {
                    if (isIn(pairs, a, b) && !allowsPair(pairs, a, b)) {
                        return false;
                    }
                }
            }
            return true;
        }

        private boolean allowsPair(long pairs, int a, int b) {
            if (refuses(a, b) || (form >= 4 && !isIn(pairs, b, a))) {
                return false;
            }
            for (int c = 0; c < things() && form == 6; c++) {
                if (isIn(pairs, b, c) && !isIn(pairs, a, c)) {
                    return false;
                }
            }
            return true;
        }

        /** All that a set() of (a, b), which was none, pushes out, in its order. */
        List<String> pushedOut(long pairs, int a, int b) {
            List<String> out = new ArrayList<>();
            if (form == 0 || form == 2 || form == 4) {
                addFrom(out, pairs, a);
            }
            for (int x = 0; x < things() && form <= 1; x++) {
                if (isIn(pairs, x, b)) {
                    out.add("" + x + b);
                }
            }
            if (form == 4) {
                addFrom(out, pairs, b);
            }
            return out;
        }

        private void addFrom(List<String> out, long pairs, int a) {
            for (int x = 0; x < things(); x++) {
                if (isIn(pairs, a, x)) {
                    out.add("" + a + x);
                }
            }
        }

        long behindSet(long pairs, int a, int b) {
            if (form == 6) {
                return behindJoining(pairs, a, b);
            }
            long behind = pairs;
            for (String gone : pushedOut(pairs, a, b)) {
                behind &= ~withTurned(gone.charAt(0) - '0', gone.charAt(1) - '0');
            }
            return behind | withTurned(a, b);
        }

        private long withTurned(int a, int b) {
            return bit(a, b) | (form == 4 || form == 5 ? bit(b, a) : 0);
        }

        private long behindJoining(long pairs, int a, int b) {
            long behind = pairs;
            for (int x = 0; x < things(); x++) {
                for (int y = 0; y < things(); y++) {
                    boolean xIn = isIn(pairs, x, a) || isIn(pairs, x, b);
                    boolean yIn = isIn(pairs, y, a) || isIn(pairs, y, b);
                    behind |= xIn && yIn ? bit(x, y) : 0;
                }
            }
            return behind;
        }

        long behindDrop(long pairs, int a, int b) {
            if (form != 6) {
                return pairs & ~withTurned(a, b);
            }
            long behind = pairs;
            for (int x = 0; x < things(); x++) {
                behind &= x == a ? -1 : ~(bit(a, x) | bit(x, a));
            }
            return behind;
        }
    }

    private record Change(String name, int a, int b) {
        String answer(RelationRows x) {
            return name.equals("empty") ? Due.answerOf(() -> x.empty(0))
                : Due.answerOf(() -> Calls.answer(x, name, 0, a, b));
        }
    }

    private static long pairsOf(RelationRows x, int relation) {
        int things = x.of(0);
        long pairs = 0;
        for (int a = 0; a < things; a++) {
            for (int b = 0; b < things; b++) {
                pairs |= x.has(relation, a, b) ? 1L << (a * things + b) : 0;
            }
        }
        return pairs;
    }

    private static void everyState(int form, int first, int second, int... kinds) {
        World world = new World(form, first, second, kinds);
        due.part("each state of FORM " + form + ", KINDS " + first + " " + second + ", THINGS of KINDS "
            + Arrays.toString(kinds));
        Map<Long, List<Change>> ways = new TreeMap<>();
        ArrayDeque<Long> open = new ArrayDeque<>();
        ways.put(world.atFirst(), List.of());
        open.add(world.atFirst());
        while (!open.isEmpty()) {
            long pairs = open.remove();
            readings(world, ways.get(pairs), pairs);
            for (Change change : changes(world.things())) {
                long behind = change(world, ways.get(pairs), pairs, change);
                if (!ways.containsKey(behind)) {
                    List<Change> way = new ArrayList<>(ways.get(pairs));
                    way.add(change);
                    ways.put(behind, way);
                    open.add(behind);
                }
            }
        }
        due.is(allowed(world), () -> List.copyOf(ways.keySet()));
    }

    private static List<Long> allowed(World world) {
        List<Long> found = new ArrayList<>();
        for (long pairs = 0; pairs < 1L << (world.things() * world.things()); pairs++) {
            if (world.allows(pairs)) {
                found.add(pairs);
            }
        }
        return found;
    }

    private static List<Change> changes(int things) {
        List<Change> found = new ArrayList<>();
        for (int a = 0; a < things; a++) {
            for (int b = 0; b < things; b++) {
                found.add(new Change("set", a, b));
                found.add(new Change("drop", a, b));
            }
        }
        found.add(new Change("empty", 0, 0));
        return found;
    }

    private static RelationRows again(World world, List<Change> way) {
        RelationRows x = world.made();
        for (Change change : way) {
            change.answer(x);
        }
        return x;
    }

    /** What is due behind a call: its answer, the pairs, and what was pushed out. */
    private record Behind(String answer, long pairs, String out) {
    }

    private static Behind behind(World world, long pairs, String out, Change change) {
        int a = change.a;
        int b = change.b;
        boolean isThere = world.isIn(pairs, a, b);
        if (change.name.equals("empty")) {
            long left = world.atFirst();
            return new Behind("" + (Long.bitCount(pairs) - Long.bitCount(left)), left, out);
        }
        if (world.refuses(a, b)) {
            return new Behind("throws.IllegalArgumentException", pairs, out);
        }
        if (change.name.equals("drop")) {
            boolean goes = isThere && !(world.form == 6 && a == b);
            return new Behind("" + goes, goes ? world.behindDrop(pairs, a, b) : pairs, out);
        }
        if (isThere) {
            return new Behind("0", pairs, "");
        }
        List<String> gone = world.pushedOut(pairs, a, b);
        return new Behind("" + gone.size(), world.behindSet(pairs, a, b), String.join(" ", gone));
    }

    /** The shortest way to a state pushes nothing out, so that there would be nothing to be told no more. */
    private static void pushOutElsewhere(RelationRows x) {
        x.relation(0, NONE, NONE);
        x.set(1, 0, 0);
        x.set(1, 1, 1);
        x.set(1, 0, 1);
        due.same("00 11", out(x), "pushed out of another relation");
    }

    /** Makes one change of a known state, and answers the pairs that there are behind it. */
    private static long change(World world, List<Change> way, long pairs, Change change) {
        RelationRows x = again(world, way);
        pushOutElsewhere(x);
        String what = way + " " + change;
        Behind want = behind(world, pairs, out(x), change);
        int[] tallies = tallies(x);
        if (change.name.equals("set") && !world.refuses(change.a, change.b)) {
            tallies[change.a * world.things() + change.b]++;
        }
        due.same(want.answer, change.answer(x), what);
        due.same("" + want.pairs, "" + pairsOf(x, 0), what + ": pairs");
        due.same(want.out, out(x), what + ": pushed out");
        due.same(Arrays.toString(tallies), Arrays.toString(tallies(x)), what + ": tallies");
        return pairsOf(x, 0);
    }

    private static String out(RelationRows x) {
        List<String> found = new ArrayList<>();
        for (int i = 0; i < x.of(2); i++) {
            found.add("" + x.pushed(i, 0) + x.pushed(i, 1));
        }
        return String.join(" ", found);
    }

    private static int[] tallies(RelationRows x) {
        int things = x.of(0);
        int[] found = new int[things * things];
        for (int k = 0; k < found.length; k++) {
            found[k] = x.tally(k / things, k % things);
        }
        return found;
    }

    /** All that can be asked of a state without a change. */
    private static void readings(World world, List<Change> way, long pairs) {
        RelationRows x = again(world, way);
        int things = world.things();
        due.same("" + Long.bitCount(pairs), "" + x.count(0), way + ": count");
        for (int a = 0; a < things; a++) {
            int thing = a;
            List<Integer> next = new ArrayList<>();
            List<Integer> back = new ArrayList<>();
            for (int b = 0; b < things; b++) {
                if (world.isIn(pairs, a, b)) {
                    next.add(b);
                }
                if (world.isIn(pairs, b, a)) {
                    back.add(b);
                }
            }
            for (int i = -1; i <= things; i++) {
                int place = i;
                due.same(at(next, i), Due.answerOf(() -> x.next(0, thing, place)), way + ": next " + a + " " + i);
                due.same(at(back, i), Due.answerOf(() -> x.back(0, thing, place)), way + ": back " + a + " " + i);
            }
            due.same(leader(world, next, a), Due.answerOf(() -> x.leader(0, thing)), way + ": leader " + a);
        }
    }

    private static String at(List<Integer> row, int i) {
        return 0 <= i && i < row.size() ? "" + row.get(i) : "throws.NoSuchElementException";
    }

    private static String leader(World world, List<Integer> sameClass, int a) {
        if (world.first != NONE && world.kinds[a] != world.first) {
            return "throws.IllegalArgumentException";
        }
        return world.form == 6 ? "" + sameClass.get(0) : "throws.IllegalStateException";
    }

    /** Many to many among four things, each set of pairs: each route beside all rows there are. */
    private static void everyRoute() {
        due.part("each route");
        World world = new World(3, NONE, NONE, new int[4]);
        List<List<Integer>> rows = rows(4);
        for (long pairs = 0; pairs < 1L << 16; pairs++) {
            RelationRows x = withPairs(new RelationRows(4), 0, pairs);
            for (int ends = 0; ends < 16; ends++) {
                oneRoute(x, firstOf(rows, world, pairs, ends / 4, ends % 4), ends / 4, ends % 4);
            }
        }
    }

    private static void oneRoute(RelationRows x, List<Integer> want, int a, int b) {
        String what = "route " + a + " " + b + " " + want;
        due.same("" + (want.size() - 1), Due.answerOf(() -> x.length(0, a, b)), what);
        for (int i = -1; i <= want.size(); i++) {
            int place = i;
            due.same(at(want, i), Due.answerOf(() -> x.route(0, a, b, place)), what + " " + i);
        }
    }

    /** All rows of different things, the shorter first, those as short by their things. */
    private static List<List<Integer>> rows(int things) {
        List<List<Integer>> rows = new ArrayList<>();
        rows.add(List.of());
        for (int k = 0; k < rows.size(); k++) {
            for (int x = 0; x < things; x++) {
                if (!rows.get(k).contains(x)) {
                    List<Integer> longer = new ArrayList<>(rows.get(k));
                    longer.add(x);
                    rows.add(longer);
                }
            }
        }
        rows.remove(0);
        return rows;
    }

    private static List<Integer> firstOf(List<List<Integer>> rows, World world, long pairs, int a, int b) {
        for (List<Integer> row : rows) {
            boolean leads = row.get(0) == a && row.get(row.size() - 1) == b;
            for (int k = 1; k < row.size() && leads; k++) {
                leads = world.isIn(pairs, row.get(k - 1), row.get(k));
            }
            if (leads) {
                return row;
            }
        }
        return List.of();
    }

    /** The object with one more relation, many to many, of these pairs. */
    private static RelationRows withPairs(RelationRows x, int relation, long pairs) {
        int things = x.of(0);
        x.relation(3, NONE, NONE);
        for (int k = 0; k < things * things; k++) {
            if ((pairs >> k & 1) != 0) {
                x.set(relation, k / things, k % things);
            }
        }
        return x;
    }

    /** Each two sets of pairs (or one in so many of the second): all conditions on them, and differ. */
    private static void everyTwo(int things, int oneIn) {
        due.part("each two relations of " + things + " things");
        long all = 1L << (things * things);
        for (long r = 0; r < all; r++) {
            for (long s = r % oneIn; s < all; s += oneIn) {
                RelationRows x = withPairs(withPairs(new RelationRows(things), 0, r), 1, s);
                for (int condition = 0; condition <= 5; condition++) {
                    int made = x.condition(condition, 0, condition >= 2 && condition <= 4 ? 1 : NONE);
                    due.same("" + byCondition(things, condition, r, s), "" + pairsOf(x, made),
                        r + " " + s + " condition " + condition);
                }
                due.same("" + differ(things, r, s), "" + x.differ(0, 1), r + " " + s + " differ");
                due.same("" + differ(things, s, r), "" + x.differ(1, 0), s + " " + r + " differ");
            }
        }
    }

    private static int differ(int things, long r, long s) {
        int first = Long.numberOfTrailingZeros(r ^ s);
        return first == 64 ? NONE : first / things * 40 + first % things;
    }

    private static long byCondition(int things, int condition, long r, long s) {
        long found = 0;
        for (int a = 0; a < things; a++) {
            for (int b = 0; b < things; b++) {
                found |= meets(things, condition, r, s, a, b) ? 1L << (a * things + b) : 0;
            }
        }
        return found;
    }

    private static boolean meets(int things, int condition, long r, long s, int a, int b) {
        boolean inR = (r >> (a * things + b) & 1) != 0;
        boolean inS = (s >> (a * things + b) & 1) != 0;
        switch (condition) {
            case 0: return (r >> (b * things + a) & 1) != 0;
            case 1: return !inR;
            case 2: return inR && inS;
            case 3: return inR || inS;
            case 4: return meetsThrough(things, r, s, a, b);
            default: return inR || meetsFar(things, r, a, b);
        }
    }

    private static boolean meetsThrough(int things, long r, long s, int a, int b) {
        for (int c = 0; c < things; c++) {
            if ((r >> (a * things + c) & 1) != 0 && (s >> (c * things + b) & 1) != 0) {
                return true;
            }
        }
        return false;
    }

    /** Rows of three things or more: one step, then as many as there are things at most. */
    private static boolean meetsFar(int things, long r, int a, int b) {
        long reached = r;
        for (int steps = 2; steps <= things; steps++) {
            reached = byCondition(things, 4, reached, r);
            if ((reached >> (a * things + b) & 1) != 0) {
                return true;
            }
        }
        return false;
    }

    /** Two conditions, one on the other, read, then read again behind each change of one pair. */
    private static void everyConditionJustThen() {
        due.part("conditions on conditions, just then");
        for (long r = 0; r < 16; r++) {
            for (int pair = 0; pair < 4; pair++) {
                for (int one = 0; one <= 5; one++) {
                    for (int other = 0; other <= 5; other++) {
                        conditionsJustThen(r, pair, one, other);
                    }
                }
            }
        }
    }

    private static void conditionsJustThen(long r, int pair, int one, int other) {
        RelationRows x = withPairs(new RelationRows(2), 0, r);
        x.condition(one, 0, one >= 2 && one <= 4 ? 0 : NONE);
        x.condition(other, 1, other >= 2 && other <= 4 ? 0 : NONE);
        looksRight(x, r, one, other);
        if ((r >> pair & 1) != 0) {
            x.drop(0, pair / 2, pair % 2);
        } else {
            x.set(0, pair / 2, pair % 2);
        }
        looksRight(x, r ^ 1L << pair, one, other);
        x.empty(0);
        looksRight(x, 0, one, other);
    }

    private static void looksRight(RelationRows x, long r, int one, int other) {
        long first = byCondition(2, one, r, r);
        String what = "condition " + other + " on condition " + one + " on " + r;
        due.same("" + byCondition(2, other, first, r), "" + pairsOf(x, 2), what);
        due.same("" + first, "" + pairsOf(x, 1), what);
    }
}
