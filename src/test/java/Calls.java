/** One call of the face by its name, so that runs of calls can be written down and made again. */
final class Calls {
    private Calls() {
    }

    static Object answer(RelationRows x, String name, int... v) {
        switch (name) {
            case "clear": return x.clear();
            case "kind": return x.kind(v[0], v[1]);
            case "relation": return x.relation(v[0], v[1], v[2]);
            case "condition": return x.condition(v[0], v[1], v[2]);
            case "set": return x.set(v[0], v[1], v[2]);
            case "drop": return x.drop(v[0], v[1], v[2]);
            case "empty": return x.empty(v[0]);
            case "pushed": return x.pushed(v[0], v[1]);
            case "has": return x.has(v[0], v[1], v[2]);
            case "next": return x.next(v[0], v[1], v[2]);
            case "back": return x.back(v[0], v[1], v[2]);
            case "count": return x.count(v[0]);
            case "length": return x.length(v[0], v[1], v[2]);
            case "route": return x.route(v[0], v[1], v[2], v[3]);
            case "leader": return x.leader(v[0], v[1]);
            case "differ": return x.differ(v[0], v[1]);
            case "tally": return x.tally(v[0], v[1]);
            case "of": return x.of(v[0]);
            case "told": return x.told(v[0], v[1]);
            default: throw new AssertionError("no such call: " + name);
        }
    }
}
