import java.util.ArrayList;
import java.util.HashMap;
import java.util.List;
import java.util.Map;
import java.util.NoSuchElementException;
import java.util.Random;
import java.util.TreeSet;

/**
 * Runs of random calls on the class and on a slow model beside it, which keeps pairs in plain sets
 * and follows the document's words. The numbers come from fixed seeds, so each run is the same.
 */
public final class ModelTest {
    private static final int RUNS = 1500;
    private static final int CALLS = 512;
    private static final int[] EDGES = {-1, -2, 40, 12, Integer.MIN_VALUE, Integer.MAX_VALUE};

    private static final Map<String, Integer> answered = new HashMap<>();

    public static void main(String[] args) {
        Due due = new Due();
        for (int run = 0; run < RUNS && !due.isWrong(); run++) {
            oneRun(due, run);
        }
        due.part("calls that the runs reached");
        due.is("[]", ModelTest::notReached);
        due.end();
    }

    private static void oneRun(Due due, int run) {
        Random random = new Random(run);
        int things = run % 25 == 0 ? 40 : 1 + random.nextInt(9);
        RelationRows x = new RelationRows(things);
        Model model = new Model(things);
        StringBuilder told = new StringBuilder("new RelationRows(" + things + ")");
        for (int call = 0; call < CALLS && !due.isWrong(); call++) {
            String name = nameOf(random, call);
            int[] v = new int[4];
            for (int k = 0; k < v.length; k++) {
                v[k] = number(random, name, k, things);
            }
            String want = Due.answerOf(() -> model.answer(name, v));
            String got = Due.answerOf(() -> Calls.answer(x, name, v));
            told.append("; ").append(name).append(java.util.Arrays.toString(v)).append(" = ").append(want);
            due.part("run " + run);
            due.same(want, got, told.toString());
            String kind = want.startsWith("throws.") ? want : "";
            answered.merge(name + kind, 1, Integer::sum);
        }
    }

    private static String nameOf(Random random, int call) {
        if (call < 12 && random.nextBoolean()) {
            return "kind";
        }
        String[] names = {"set", "set", "set", "set", "set", "set", "drop", "drop", "pushed", "has", "has",
            "next", "back", "count", "length", "route", "route", "leader", "differ", "tally", "of", "told"};
        int seldom = random.nextInt(100);
        if (seldom < 7) {
            return random.nextBoolean() ? "relation" : "condition";
        }
        if (seldom == 7) {
            String[] rare = {"clear", "empty", "empty", "kind"};
            return rare[random.nextInt(rare.length)];
        }
        return names[random.nextInt(names.length)];
    }

    private static int number(Random random, String name, int place, int things) {
        if (random.nextInt(40) == 0) {
            return EDGES[random.nextInt(EDGES.length)];
        }
        switch (name) {
            case "kind":
                return place == 0 ? random.nextInt(things) : random.nextInt(4);
            case "relation":
                return place == 0 ? random.nextInt(7) : random.nextInt(3) == 0 ? random.nextInt(2) : -1;
            case "condition":
                return place == 0 ? random.nextInt(6) : random.nextInt(7) - (place == 2 ? 3 : 0);
            case "pushed":
                return random.nextInt(3);
            case "of":
                return random.nextInt(4);
            case "tally":
                return random.nextInt(things);
            case "differ":
                return random.nextInt(9);
            case "told":
                return place == 0 ? random.nextInt(9) : random.nextInt(4);
            default:
                return place == 0 ? random.nextInt(9)
                    : place == 3 ? random.nextInt(4)
                    : place == 2 && (name.equals("next") || name.equals("back")) ? random.nextInt(4)
                    : random.nextInt(things);
        }
    }

    /** A run of calls that never gets an answer of some sort tests nothing of it. */
    private static TreeSet<String> notReached() {
        String argument = "throws.IllegalArgumentException";
        String state = "throws.IllegalStateException";
        String element = "throws.NoSuchElementException";
        String index = "throws.ArrayIndexOutOfBoundsException";
        String[] wanted = {"clear", "kind", "kind" + argument, "kind" + state, "relation", "relation" + argument,
            "relation" + state, "condition", "condition" + argument, "condition" + state, "set",
            "set" + argument, "set" + state, "drop", "drop" + argument, "drop" + state, "empty",
            "empty" + argument, "empty" + state, "pushed", "pushed" + argument, "pushed" + element, "has",
            "has" + argument, "next", "next" + argument, "next" + element, "back", "back" + argument,
            "back" + element, "count", "count" + argument, "length", "length" + argument, "route",
            "route" + argument, "route" + element, "leader", "leader" + argument, "leader" + state, "differ",
            "differ" + argument, "tally", "tally" + index, "of", "of" + argument, "told", "told" + argument};
        TreeSet<String> missing = new TreeSet<>();
        for (String one : wanted) {
            if (answered.getOrDefault(one, 0) < 20) {
                missing.add(one);
            }
        }
        return missing;
    }

    /** The document's words, in their plainest form. */
    private static final class Model {
        private final int things;
        private int[] kinds;
        private int[][] tallies;
        private List<Rel> relations;
        private List<int[]> out;

        private static final class Rel {
            private int form = -1;
            private int condition = -1;
            private int first;
            private int second;
            private TreeSet<Integer> pairs = new TreeSet<>();
        }

        Model(int things) {
            this.things = things;
            begin();
        }

        private void begin() {
            kinds = new int[things];
            tallies = new int[things][things];
            relations = new ArrayList<>();
            out = new ArrayList<>();
        }

        Object answer(String name, int[] v) {
            switch (name) {
                case "clear": {
                    int before = relations.size();
                    begin();
                    return before;
                }
                case "kind": return kind(v[0], v[1]);
                case "relation": return relation(v[0], v[1], v[2]);
                case "condition": return condition(v[0], v[1], v[2]);
                case "set": return set(v[0], v[1], v[2]);
                case "drop": return drop(v[0], v[1], v[2]);
                case "empty": return empty(v[0]);
                case "pushed": {
                    refuse(v[1] != 0 && v[1] != 1);
                    lack(v[0] < 0 || v[0] >= out.size());
                    return out.get(v[0])[v[1]];
                }
                case "has": {
                    refuse(!isRelation(v[0]) || !isThing(v[1]) || !isThing(v[2]));
                    return pairsOf(v[0]).contains(v[1] * 40 + v[2]);
                }
                case "next": return ith(v[0], v[1], v[2], false);
                case "back": return ith(v[0], v[1], v[2], true);
                case "count": {
                    refuse(!isRelation(v[0]));
                    return pairsOf(v[0]).size();
                }
                case "length": {
                    List<Integer> row = route(v[0], v[1], v[2]);
                    return row == null ? -1 : row.size() - 1;
                }
                case "route": {
                    List<Integer> row = route(v[0], v[1], v[2]);
                    lack(row == null || v[3] < 0 || v[3] >= row.size());
                    return row.get(v[3]);
                }
                case "leader": return leader(v[0], v[1]);
                case "differ": return differ(v[0], v[1]);
                case "tally": {
                    if (!isThing(v[0]) || !isThing(v[1])) {
                        throw new ArrayIndexOutOfBoundsException();
                    }
                    return tallies[v[0]][v[1]];
                }
                case "of": {
                    refuse(v[0] < 0 || v[0] > 2);
                    return new int[] {things, relations.size(), out.size()}[v[0]];
                }
                default: {
                    refuse(!isRelation(v[0]) || v[1] < 0 || v[1] > 2);
                    Rel r = relations.get(v[0]);
                    return new int[] {r.form >= 0 ? r.form : 10 + r.condition, r.first, r.second}[v[1]];
                }
            }
        }

        private static void refuse(boolean wrong) {
            if (wrong) {
                throw new IllegalArgumentException();
            }
        }

        private static void forbid(boolean wrong) {
            if (wrong) {
                throw new IllegalStateException();
            }
        }

        private static void lack(boolean wrong) {
            if (wrong) {
                throw new NoSuchElementException();
            }
        }

        private boolean isThing(int a) {
            return 0 <= a && a < things;
        }

        private boolean isRelation(int r) {
            return 0 <= r && r < relations.size();
        }

        private boolean isOf(int a, int kind) {
            return kind == -1 || kinds[a] == kind;
        }

        private int kind(int thing, int kind) {
            refuse(!isThing(thing) || kind < 0 || kind > 3);
            forbid(!relations.isEmpty());
            int before = kinds[thing];
            kinds[thing] = kind;
            return before;
        }

        private int relation(int form, int first, int second) {
            refuse(form < 0 || form > 6 || first < -1 || first > 3 || second < -1 || second > 3);
            refuse(form >= 4 && first != second);
            forbid(relations.size() == 12);
            Rel r = new Rel();
            r.form = form;
            r.first = first;
            r.second = second;
            alone(r);
            relations.add(r);
            return relations.size() - 1;
        }

        private void alone(Rel r) {
            r.pairs.clear();
            for (int a = 0; a < things; a++) {
                if (r.form == 6 && isOf(a, r.first)) {
                    r.pairs.add(a * 40 + a);
                }
            }
        }

        private int condition(int condition, int r, int s) {
            refuse(condition < 0 || condition > 5 || !isRelation(r));
            boolean two = condition >= 2 && condition <= 4;
            refuse(two ? !isRelation(s) : s != -1);
            forbid(relations.size() == 12);
            Rel made = new Rel();
            made.condition = condition;
            made.first = r;
            made.second = s;
            relations.add(made);
            return relations.size() - 1;
        }

        private Rel toChange(int relation, int a, int b) {
            refuse(!isRelation(relation) || !isThing(a) || !isThing(b));
            Rel r = relations.get(relation);
            if (r.form >= 0) {
                refuse(!isOf(a, r.first) || !isOf(b, r.second) || (r.form == 4 && a == b));
            }
            forbid(r.form < 0);
            return r;
        }

        private int set(int relation, int a, int b) {
            Rel r = toChange(relation, a, b);
            tallies[a][b]++;
            out.clear();
            if (r.pairs.contains(a * 40 + b)) {
                return 0;
            }
            if (r.form == 0 || r.form == 2 || r.form == 4) {
                pushFirst(r, a);
            }
            if (r.form == 0 || r.form == 1) {
                pushSecond(r, b);
            }
            if (r.form == 4) {
                pushFirst(r, b);
            }
            r.pairs.add(a * 40 + b);
            if (r.form == 4 || r.form == 5) {
                r.pairs.add(b * 40 + a);
            }
            if (r.form == 6) {
                mergeOf(r);
            }
            return out.size();
        }

        private void pushFirst(Rel r, int a) {
            for (int x = 0; x < things; x++) {
                if (r.pairs.contains(a * 40 + x)) {
                    out.add(new int[] {a, x});
                    go(r, a, x);
                }
            }
        }

        private void pushSecond(Rel r, int b) {
            for (int x = 0; x < things; x++) {
                if (r.pairs.contains(x * 40 + b)) {
                    out.add(new int[] {x, b});
                    go(r, x, b);
                }
            }
        }

        private void go(Rel r, int a, int b) {
            r.pairs.remove(a * 40 + b);
            if (r.form == 4 || r.form == 5) {
                r.pairs.remove(b * 40 + a);
            }
        }

        private void mergeOf(Rel r) {
            TreeSet<Integer> both = new TreeSet<>(r.pairs);
            for (int pair : r.pairs) {
                both.add(pair % 40 * 40 + pair / 40);
            }
            r.pairs = far(both);
        }

        private boolean drop(int relation, int a, int b) {
            Rel r = toChange(relation, a, b);
            if (!r.pairs.contains(a * 40 + b) || (r.form == 6 && a == b)) {
                return false;
            }
            go(r, a, b);
            if (r.form == 6) {
                r.pairs.removeIf(pair -> (pair / 40 == a) != (pair % 40 == a));
            }
            return true;
        }

        private int empty(int relation) {
            refuse(!isRelation(relation));
            Rel r = relations.get(relation);
            forbid(r.form < 0);
            int before = r.pairs.size();
            alone(r);
            return before - r.pairs.size();
        }

        private TreeSet<Integer> pairsOf(int relation) {
            Rel r = relations.get(relation);
            if (r.form >= 0) {
                return r.pairs;
            }
            TreeSet<Integer> one = pairsOf(r.first);
            TreeSet<Integer> two = r.second < 0 ? one : pairsOf(r.second);
            if (r.condition == 5) {
                return far(one);
            }
            TreeSet<Integer> found = new TreeSet<>();
            for (int a = 0; a < things; a++) {
                for (int b = 0; b < things; b++) {
                    if (meets(r.condition, one, two, a, b)) {
                        found.add(a * 40 + b);
                    }
                }
            }
            return found;
        }

        private boolean meets(int condition, TreeSet<Integer> r, TreeSet<Integer> s, int a, int b) {
            boolean inR = r.contains(a * 40 + b);
            boolean inS = s.contains(a * 40 + b);
            switch (condition) {
                case 0: return r.contains(b * 40 + a);
                case 1: return !inR;
                case 2: return inR && inS;
                case 3: return inR || inS;
                default:
                    for (int c = 0; c < things; c++) {
                        if (r.contains(a * 40 + c) && s.contains(c * 40 + b)) {
                            return true;
                        }
                    }
                    return false;
            }
        }

        /** From each thing, all that can be walked to in one step or more. */
        private TreeSet<Integer> far(TreeSet<Integer> pairs) {
            TreeSet<Integer> found = new TreeSet<>();
            for (int a = 0; a < things; a++) {
                List<Integer> open = new ArrayList<>(List.of(a));
                while (!open.isEmpty()) {
                    int at = open.remove(open.size() - 1);
                    for (int pair : pairs.subSet(at * 40, at * 40 + 40)) {
                        if (found.add(a * 40 + pair % 40)) {
                            open.add(pair % 40);
                        }
                    }
                }
            }
            return found;
        }

        private int ith(int relation, int a, int i, boolean backwards) {
            refuse(!isRelation(relation) || !isThing(a));
            List<Integer> found = new ArrayList<>();
            for (int pair : pairsOf(relation)) {
                if ((backwards ? pair % 40 : pair / 40) == a) {
                    found.add(backwards ? pair / 40 : pair % 40);
                }
            }
            lack(i < 0 || i >= found.size());
            return found.get(i);
        }

        /** Rows in the order of their things, the shorter first: the first to end at b is the route. */
        private List<Integer> route(int relation, int a, int b) {
            refuse(!isRelation(relation) || !isThing(a) || !isThing(b));
            TreeSet<Integer> pairs = pairsOf(relation);
            TreeSet<Integer> seen = new TreeSet<>(List.of(a));
            List<List<Integer>> rows = new ArrayList<>();
            rows.add(List.of(a));
            for (int k = 0; k < rows.size(); k++) {
                List<Integer> row = rows.get(k);
                int at = row.get(row.size() - 1);
                if (at == b) {
                    return row;
                }
                for (int pair : pairs.subSet(at * 40, at * 40 + 40)) {
                    if (seen.add(pair % 40)) {
                        List<Integer> longer = new ArrayList<>(row);
                        longer.add(pair % 40);
                        rows.add(longer);
                    }
                }
            }
            return null;
        }

        private int leader(int relation, int a) {
            refuse(!isRelation(relation) || !isThing(a));
            Rel r = relations.get(relation);
            refuse(r.form >= 0 && !isOf(a, r.first));
            forbid(r.form != 6);
            return r.pairs.subSet(a * 40, a * 40 + 40).first() % 40;
        }

        private int differ(int r, int s) {
            refuse(!isRelation(r) || !isRelation(s));
            TreeSet<Integer> one = new TreeSet<>(pairsOf(r));
            TreeSet<Integer> other = new TreeSet<>(pairsOf(s));
            TreeSet<Integer> same = new TreeSet<>(one);
            same.retainAll(other);
            one.addAll(other);
            one.removeAll(same);
            return one.isEmpty() ? -1 : one.first();
        }
    }
}
