import java.util.ArrayList;
import java.util.Arrays;
import java.util.List;
import java.util.Map;

/**
 * Runs of calls written as text, one a line, each with the answer that is due: "set 0 1 2 = 0".
 * A place with braces stands for each of its numbers: "set 0 {-1 5} 2 = IllegalArgument".
 * Three lines of its own ask much at once: "pairs r = 01 12", "out = 01" (what was pushed out) and
 * "walk r a b = 0 1 7".
 *
 * Each call is made on a new object that has had the calls before it. Behind a call that throws, or
 * only reads, all that the object shows must be as before it.
 */
final class Script {
    private static final int MOST_CALLS = 512;
    private static final int SHOWN_WHOLE = 12;
    private static final int[] SHOWN_OF_MANY = {0, 1, 2, 7, 15, 16, 30, 31, 32, 33, 38, 39};
    private static final List<String> CHANGING =
        List.of("clear", "kind", "relation", "condition", "set", "drop", "empty");
    private static final Map<String, String> EXCEPTIONS = Map.of(
        "IllegalArgument", "throws.IllegalArgumentException",
        "IllegalState", "throws.IllegalStateException",
        "NoSuchElement", "throws.NoSuchElementException",
        "ArrayIndexOutOfBounds", "throws.ArrayIndexOutOfBoundsException");

    private record Step(String name, int[] args) {
        @Override
        public String toString() {
            return name + Arrays.toString(args);
        }
    }

    private interface View {
        String of(Used x);
    }

    private final Due due;
    private final List<Step> history = new ArrayList<>();
    private int asked;
    private List<String> shown;

    Script(Due due) {
        this.due = due;
    }

    void run(String sentence, String... texts) {
        due.part(sentence);
        history.clear();
        for (String text : texts) {
            for (String line : text.split("\n")) {
                if (!line.isBlank()) {
                    line(line.trim());
                }
            }
        }
    }

    private void line(String line) {
        if (line.startsWith("new ")) {
            asked = number(line.substring(4).trim());
            history.clear();
            shown = null;
            return;
        }
        int cut = line.lastIndexOf('=');
        if (cut < 0) {
            throw new AssertionError("a line without its answer: " + line);
        }
        String want = line.substring(cut + 1).trim();
        for (Step step : expanded(line.substring(0, cut).trim())) {
            one(step, EXCEPTIONS.getOrDefault(want, want));
        }
    }

    private void one(Step step, String want) {
        Used x = again();
        String got = x.answer(step);
        due.same(want, got, history + " " + step);
        boolean refused = got.startsWith("throws.");
        if (refused || !CHANGING.contains(step.name)) {
            nothingChanged(step);
        } else {
            shown = null;
        }
        if (!refused) {
            history.add(remembered(step));
        }
    }

    /** Readings stay in the history too: an object may keep what it has worked out for them. */
    private static Step remembered(Step step) {
        switch (step.name) {
            case "pairs": return new Step("count", step.args);
            case "out": return new Step("of", new int[] {2});
            case "walk": return new Step("length", step.args);
            default: return step;
        }
    }

    private void nothingChanged(Step step) {
        if (shown == null) {
            shown = shownBehind(null);
        }
        List<String> now = shownBehind(step);
        for (int k = 0; k < shown.size(); k++) {
            due.same(shown.get(k), now.get(k), "what shows behind " + history + " " + step);
        }
    }

    private Used again() {
        Used x = new Used(asked);
        for (Step step : history) {
            x.answer(step);
        }
        return x;
    }

    /** Each view has an object of its own, so that none is used for more calls than it may be. */
    private List<String> shownBehind(Step step) {
        List<String> texts = new ArrayList<>();
        int relations = again().asInt("of", 1);
        for (View view : views(relations)) {
            Used x = again();
            if (step != null) {
                x.answer(step);
            }
            texts.add(view.of(x));
        }
        return texts;
    }

    private static List<View> views(int relations) {
        List<View> views = new ArrayList<>();
        views.add(Script::numbers);
        views.add(Script::tallies);
        views.add(Script::kindsByFitting);
        views.add(Script::kindsByClasses);
        for (int r = 0; r < relations; r++) {
            int relation = r;
            views.add(x -> oneRelation(x, relation));
        }
        return views;
    }

    private static String numbers(Used x) {
        return "of " + x.all("of", 0, 1, 2) + " out " + x.out() + " cleared " + x.ask("clear");
    }

    private static String tallies(Used x) {
        StringBuilder text = new StringBuilder("tallies");
        int[] things = x.someThings();
        for (int a : things) {
            for (int b : things) {
                text.append(' ').append(x.ask("tally", a, b));
            }
        }
        return text.toString();
    }

    /** The kinds can be asked for while there are no relations; later they show in what fits. */
    private static String kindsByFitting(Used x) {
        StringBuilder text = new StringBuilder("kinds");
        int relations = x.asInt("of", 1);
        for (int a : x.someThings()) {
            text.append(' ').append(x.ask("kind", a, 0));
            for (int r = 0; r < relations; r++) {
                text.append(' ').append(x.ask("set", r, a, a));
            }
        }
        return text.toString();
    }

    private static String kindsByClasses(Used x) {
        StringBuilder text = new StringBuilder("classes");
        for (int kind = 0; kind < 4; kind++) {
            String made = x.ask("relation", 6, kind, kind);
            text.append(' ').append(made);
            if (!made.startsWith("throws.")) {
                for (int a : x.someThings()) {
                    text.append(' ').append(x.ask("has", Integer.parseInt(made), a, a));
                }
            }
        }
        return text.toString();
    }

    private static String oneRelation(Used x, int r) {
        StringBuilder text = new StringBuilder("relation " + r);
        for (int what = 0; what < 3; what++) {
            text.append(' ').append(x.ask("told", r, what));
        }
        text.append(" count ").append(x.ask("count", r));
        int[] things = x.someThings();
        for (int a : things) {
            for (int b : things) {
                text.append(' ').append(x.ask("has", r, a, b));
            }
        }
        return text.toString();
    }

    private List<Step> expanded(String call) {
        List<String> words = words(call);
        List<int[]> rows = new ArrayList<>();
        rows.add(new int[0]);
        for (String word : words.subList(1, words.size())) {
            List<int[]> longer = new ArrayList<>();
            for (int[] row : rows) {
                for (String one : word.split(" ")) {
                    int[] next = Arrays.copyOf(row, row.length + 1);
                    next[row.length] = number(one);
                    longer.add(next);
                }
            }
            rows = longer;
        }
        List<Step> steps = new ArrayList<>();
        for (int[] row : rows) {
            steps.add(new Step(words.get(0), row));
        }
        return steps;
    }

    private static List<String> words(String call) {
        List<String> words = new ArrayList<>();
        StringBuilder word = new StringBuilder();
        boolean inBraces = false;
        for (char c : (call + " ").toCharArray()) {
            if (c == '{' || c == '}') {
                inBraces = c == '{';
            } else if (c != ' ' || inBraces) {
                word.append(c);
            } else if (word.length() > 0) {
                words.add(word.toString().trim());
                word.setLength(0);
            }
        }
        return words;
    }

    private static int number(String word) {
        switch (word) {
            case "least": return Integer.MIN_VALUE;
            case "most": return Integer.MAX_VALUE;
            default: return Integer.parseInt(word);
        }
    }

    /** An object with a count of its calls: what it answers beyond 512 of them is free. */
    private static final class Used {
        private final RelationRows held;
        private int calls;

        Used(int things) {
            held = new RelationRows(things);
        }

        String ask(String name, int... args) {
            calls++;
            if (calls > MOST_CALLS) {
                throw new AssertionError("the test uses an object for more than 512 calls");
            }
            return Due.answerOf(() -> Calls.answer(held, name, args));
        }

        int asInt(String name, int... args) {
            return Integer.parseInt(ask(name, args));
        }

        String answer(Step step) {
            switch (step.name) {
                case "pairs": return pairs(step.args[0]);
                case "out": return out();
                case "walk": return walk(step.args[0], step.args[1], step.args[2]);
                default: return ask(step.name, step.args);
            }
        }

        String all(String name, int... args) {
            List<String> answers = new ArrayList<>();
            for (int arg : args) {
                answers.add(ask(name, arg));
            }
            return String.join(" ", answers);
        }

        int[] someThings() {
            int things = asInt("of", 0);
            int[] some = new int[SHOWN_WHOLE];
            int count = 0;
            for (int k = 0; k < SHOWN_WHOLE; k++) {
                int thing = things <= SHOWN_WHOLE ? k : SHOWN_OF_MANY[k];
                if (thing < things) {
                    some[count++] = thing;
                }
            }
            return Arrays.copyOf(some, count);
        }

        String pairs(int relation) {
            int things = asInt("of", 0);
            List<String> found = new ArrayList<>();
            for (int a = 0; a < things; a++) {
                for (int b = 0; b < things; b++) {
                    if (ask("has", relation, a, b).equals("true")) {
                        found.add("" + a + b);
                    }
                }
            }
            return String.join(" ", found);
        }

        String out() {
            List<String> found = new ArrayList<>();
            int count = asInt("of", 2);
            for (int i = 0; i < count; i++) {
                found.add(ask("pushed", i, 0) + ask("pushed", i, 1));
            }
            String behind = ask("pushed", count, 0);
            return behind.equals("throws.NoSuchElementException")
                ? String.join(" ", found) : "more than of(2): " + behind;
        }

        String walk(int relation, int a, int b) {
            List<String> found = new ArrayList<>();
            int steps = asInt("length", relation, a, b);
            for (int i = 0; i <= steps; i++) {
                found.add(ask("route", relation, a, b, i));
            }
            String behind = ask("route", relation, a, b, steps + 1);
            return behind.equals("throws.NoSuchElementException")
                ? String.join(" ", found) : "longer than length(): " + behind;
        }
    }
}
