/** The boundary cases that the document names under its promises, a part a sentence. */
public final class BoundaryPromisesTest {
    private static final Due due = new Due();
    private static final Script script = new Script(due);

    public static void main(String[] args) {
        fiveHundredAndTwelveCalls();
        newObject();
        clear();
        clearOfTwelve();
        kind();
        relation();
        condition();
        set();
        drop();
        empty();
        emptyFull();
        pushed();
        pushedOfTheLastSet();
        has();
        nextAndBack();
        nextAndBackOfForty();
        count();
        length();
        route();
        leader();
        leaderOfForty();
        differ();
        tally();
        of();
        told();
        oneThing();
        due.end();
    }

    private static void fiveHundredAndTwelveCalls() {
        due.part("An object is used for at most 512 calls: the last of them");
        RelationRows x = new RelationRows(40);
        x.relation(0, -1, -1);
        for (int call = 2; call <= 511; call++) {
            int b = 38 + call % 2;
            due.is(call == 2 ? 0 : 1, () -> x.set(0, 39, b));
        }
        due.is(38, () -> x.pushed(0, 1));
        RelationRows y = new RelationRows(1);
        y.relation(6, 0, 0);
        for (int call = 2; call <= 511; call++) {
            y.set(0, 0, 0);
        }
        due.is(510, () -> y.tally(0, 0));
        RelationRows z = new RelationRows(40);
        for (int call = 1; call <= 511; call += 2) {
            due.is(0, () -> z.relation(6, -1, -1));
            due.is(1, z::clear);
        }
    }

    private static void newObject() {
        int[][] asked = {{Integer.MIN_VALUE, 1}, {-1, 1}, {0, 1}, {1, 1}, {2, 2}, {39, 39}, {40, 40}, {41, 40},
            {Integer.MAX_VALUE, 40}};
        for (int[] row : asked) {
            script.run("1 .. 40 (a number that is none counts as the nearest that is): " + row[0], """
                new ASKED
                of 0 = THINGS
                kind {-1 THINGS} 0 = IllegalArgument
                kind LAST 0 = 0
                relation 6 -1 -1 = 0
                count 0 = THINGS
                leader 0 LAST = LAST
                leader 0 {-1 THINGS} = IllegalArgument
                """.replace("ASKED", "" + row[0]).replace("THINGS", "" + row[1])
                .replace("LAST", "" + (row[1] - 1)));
        }
        script.run("no RELATIONS, nothing PUSHED OUT", """
            new 5
            of 1 = 0
            of 2 = 0
            out =
            pushed {-1 0 1} {0 1} = NoSuchElement
            count {-1 0 1} = IllegalArgument
            tally {0 4} {0 4} = 0
            """);
    }

    private static void clear() {
        script.run("All as at first: nothing has been before", """
            new 5
            clear = 0
            clear = 0
            of 0 = 5
            relation 3 -1 -1 = 0
            clear = 1
            clear = 0
            """);
        script.run("All as at first, but with as many THINGS", """
            new 5
            kind 4 3 = 0
            kind 0 1 = 0
            relation 0 -1 -1 = 0
            condition 1 0 -1 = 1
            relation 6 3 3 = 2
            set 0 0 1 = 0
            set 0 4 4 = 0
            set 0 0 4 = 2
            count 1 = 24
            clear = 3
            of 0 = 5
            of 1 = 0
            of 2 = 0
            out =
            tally {0 4} {1 4} = 0
            kind {0 4} 0 = 0
            kind 5 0 = IllegalArgument
            count {0 1 2} = IllegalArgument
            relation 6 0 0 = 0
            count 0 = 5
            relation 0 -1 -1 = 1
            count 1 = 0
            condition 1 1 -1 = 2
            count 2 = 25
            set 1 0 4 = 0
            tally 0 4 = 1
            count 2 = 24
            """);
        script.run("All as at first: a CONDITION has no PAIRS of one that was before", """
            new 3
            relation 3 -1 -1 = 0
            condition 1 0 -1 = 1
            condition 1 1 -1 = 2
            count 1 = 9
            count 2 = 0
            clear = 3
            relation 6 -1 -1 = 0
            condition 0 0 -1 = 1
            condition 5 1 -1 = 2
            pairs 1 = 00 11 22
            pairs 2 = 00 11 22
            """);
        script.run("All as at first: what was by a CONDITION is of a FORM, and the other way round", """
            new 3
            relation 3 -1 -1 = 0
            condition 1 0 -1 = 1
            relation 6 -1 -1 = 2
            set 2 0 2 = 0
            count 1 = 9
            clear = 3
            relation 6 -1 -1 = 0
            relation 3 -1 -1 = 1
            condition 0 0 -1 = 2
            pairs 0 = 00 11 22
            pairs 1 =
            pairs 2 = 00 11 22
            """);
    }

    private static void clearOfTwelve() {
        for (int n : new int[] {1, 40}) {
            StringBuilder lines = new StringBuilder("new " + n + "\n");
            for (int k = 0; k < 12; k++) {
                lines.append("relation 6 -1 -1 = " + k + "\n");
            }
            script.run("how many RELATIONS there were: twelve", lines.toString(), """
                relation 6 -1 -1 = IllegalState
                clear = 12
                of 0 = N
                of 1 = 0
                relation 6 -1 -1 = 0
                clear = 1
                """.replace("N", "" + n));
        }
    }

    private static void kind() {
        script.run("The KIND of a THING: what it was", """
            new 3
            kind 2 3 = 0
            kind 2 3 = 3
            kind 2 1 = 3
            kind 0 2 = 0
            kind 1 0 = 0
            kind 2 0 = 1
            kind 0 0 = 2
            """);
        script.run("IllegalState: there are RELATIONS already", """
            new 3
            kind 0 2 = 0
            relation 3 2 0 = 0
            kind {0 1 2} {0 1 2 3} = IllegalState
            set 0 0 1 = 0
            set 0 1 0 = IllegalArgument
            empty 0 = 1
            kind 0 2 = IllegalState
            clear = 1
            kind 0 2 = 0
            kind 0 1 = 2
            """);
    }

    private static void relation() {
        script.run("A RELATION of a FORM: its number", """
            new 2
            relation 7 0 0 = IllegalArgument
            relation 3 -1 -1 = 0
            relation 3 -1 4 = IllegalArgument
            relation 3 -1 -1 = 1
            condition 6 0 -1 = IllegalArgument
            condition 3 0 1 = 2
            relation 5 0 1 = IllegalArgument
            relation 0 3 2 = 3
            """);
        script.run("IllegalArgument: also unlike KINDS of FORMS 4, 5, 6", """
            new 2
            relation {4 5 6} {-1 1} 0 = IllegalArgument
            relation {4 5 6} 0 {-1 1 3} = IllegalArgument
            relation 0 0 1 = 0
            relation 1 0 1 = 1
            relation 2 0 1 = 2
            relation 3 0 1 = 3
            relation 4 1 1 = 4
            """);
    }

    private static void condition() {
        script.run("A RELATION by a CONDITION on r: the first and the last there is, not itself", """
            new 2
            condition {0 1 5} 0 -1 = IllegalArgument
            condition {2 3 4} 0 0 = IllegalArgument
            relation 3 -1 -1 = 0
            condition {0 1 5} 1 -1 = IllegalArgument
            condition {2 3 4} 0 1 = IllegalArgument
            condition {2 3 4} 1 0 = IllegalArgument
            condition 1 0 -1 = 1
            condition 1 1 -1 = 2
            condition 2 0 2 = 3
            count 1 = 4
            count {2 3} = 0
            set 0 1 1 = 0
            count {2 3} = 1
            """);
    }

    private static void set() {
        script.run("those that were before are told no more", """
            new 4
            relation 0 -1 -1 = 0
            relation 3 -1 -1 = 1
            set 0 0 1 = 0
            set 0 2 3 = 0
            set 0 0 3 = 2
            out = 01 23
            set 0 0 2 = 1
            out = 03
            pushed 1 {0 1} = NoSuchElement
            set 0 0 2 = 0
            out =
            pushed 0 {0 1} = NoSuchElement
            set 0 0 1 = 1
            set 1 0 0 = 0
            out =
            """);
        script.run("set(): a refused one leaves what is told", """
            new 4
            kind 3 1 = 0
            relation 4 0 0 = 0
            condition 0 0 -1 = 1
            set 0 0 1 = 0
            set 0 0 2 = 1
            set 0 0 0 = IllegalArgument
            set 0 0 3 = IllegalArgument
            set 0 0 4 = IllegalArgument
            set 2 0 1 = IllegalArgument
            set 1 0 1 = IllegalState
            out = 01
            tally 0 {0 3} = 0
            tally 0 1 = 1
            """);
    }

    private static void drop() {
        script.run("A PAIR goes: whether it was there", """
            new 2
            relation 3 -1 -1 = 0
            drop 0 {0 1} {0 1} = false
            set 0 1 0 = 0
            drop 0 0 1 = false
            drop 0 1 0 = true
            drop 0 1 0 = false
            count 0 = 0
            set 0 {0 1} {0 1} = 0
            drop 0 {0 1} {0 1} = true
            count 0 = 0
            """);
        script.run("a PAIR of a CLASS with itself does not go: false", """
            new 3
            kind 2 1 = 0
            relation 6 0 0 = 0
            drop 0 0 0 = false
            drop 0 1 1 = false
            drop 0 2 2 = IllegalArgument
            set 0 0 1 = 0
            drop 0 0 0 = false
            drop 0 1 1 = false
            pairs 0 = 00 01 10 11
            drop 0 1 0 = true
            pairs 0 = 00 11
            """);
    }

    private static void empty() {
        script.run("All PAIRS that can go do: there is none", """
            new 4
            kind 3 2 = 0
            relation 0 -1 -1 = 0
            relation 1 -1 -1 = 1
            relation 2 -1 -1 = 2
            relation 3 -1 -1 = 3
            relation 4 0 0 = 4
            relation 5 0 0 = 5
            relation 6 0 0 = 6
            empty {0 1 2 3 4 5 6} = 0
            count {0 1 2 3 4 5} = 0
            pairs 6 = 00 11 22
            set {0 1 2 3 4 5 6} 0 1 = 0
            empty {0 1 2 3} = 1
            empty {4 5 6} = 2
            empty {0 1 2 3 4 5 6} = 0
            count {0 1 2 3 4 5} = 0
            pairs 6 = 00 11 22
            set 5 2 2 = 0
            empty 5 = 1
            """);
        script.run("how many PAIRS are less: one RELATION alone", """
            new 3
            relation 3 -1 -1 = 0
            relation 3 -1 -1 = 1
            set {0 1} 0 {0 1 2} = 0
            empty 0 = 3
            count 0 = 0
            count 1 = 3
            """);
        script.run("IllegalState: likewise", """
            new 3
            relation 3 -1 -1 = 0
            condition 1 0 -1 = 1
            empty 1 = IllegalState
            empty {-1 2 12 least most} = IllegalArgument
            """);
    }

    private static void emptyFull() {
        script.run("how many PAIRS are less: all PAIRS were there", """
            new 3
            relation 3 -1 -1 = 0
            relation 5 -1 -1 = 1
            relation 6 -1 -1 = 2
            set {0 1} {0 1 2} {0 1 2} = 0
            set 2 0 {1 2} = 0
            count {0 1 2} = 9
            empty {0 1} = 9
            empty 2 = 6
            count {0 1} = 0
            pairs 2 = 00 11 22
            """);
        StringBuilder lines = new StringBuilder("new 40\nrelation 6 -1 -1 = 0\n");
        for (int a = 0; a < 39; a++) {
            lines.append("set 0 " + a + " 39 = 0\n");
        }
        script.run("how many PAIRS are less: one CLASS of forty", lines.toString(), """
            count 0 = 1600
            empty 0 = 1560
            count 0 = 40
            has 0 39 39 = true
            has 0 39 0 = false
            empty 0 = 0
            """);
    }

    private static void pushed() {
        script.run("Of the i-th PAIR that the last set() PUSHED OUT: none, one, two", """
            new 5
            relation 4 -1 -1 = 0
            pushed {-1 0 1 2 least most} {0 1} = NoSuchElement
            pushed {-1 0 1 2 least most} {-1 2 3 least most} = IllegalArgument
            set 0 1 3 = 0
            pushed {-1 0 1 2 least most} {0 1} = NoSuchElement
            pushed {-1 0 1 2 least most} {-1 2 3 least most} = IllegalArgument
            set 0 2 3 = 1
            pushed 0 0 = 3
            pushed 0 1 = 1
            pushed {-1 1 2 least most} {0 1} = NoSuchElement
            pushed {-1 0 1 2 least most} {-1 2 3 least most} = IllegalArgument
            set 0 0 4 = 0
            set 0 4 2 = 2
            pushed 0 0 = 4
            pushed 0 1 = 0
            pushed 1 0 = 2
            pushed 1 1 = 3
            pushed {-1 2 3 least most} {0 1} = NoSuchElement
            pushed {-1 0 1 2 least most} {-1 2 3 least most} = IllegalArgument
            """);
    }

    private static void pushedOfTheLastSet() {
        script.run("what the last set() PUSHED OUT: other calls leave it", """
            new 4
            relation 0 -1 -1 = 0
            set 0 0 1 = 0
            set 0 2 3 = 0
            set 0 0 3 = 2
            drop 0 0 3 = true
            drop 0 0 3 = false
            out = 01 23
            relation 3 -1 -1 = 1
            condition 1 0 -1 = 2
            empty 0 = 0
            out = 01 23
            set 1 0 0 = 0
            out =
            """);
    }

    private static void has() {
        script.run("Whether it is a PAIR. (One that does not FIT is none.)", """
            new 3
            kind 1 1 = 0
            relation 3 0 1 = 0
            relation 4 0 0 = 1
            relation 6 1 1 = 2
            has 0 {0 1 2} {0 1 2} = false
            has 1 {0 1 2} {0 1 2} = false
            has 2 {0 2} {0 1 2} = false
            has 2 1 {0 2} = false
            has 2 1 1 = true
            set 0 {0 2} 1 = 0
            has 0 {0 2} 1 = true
            has 0 1 {0 1 2} = false
            has 0 {0 2} {0 2} = false
            """);
        script.run("IllegalArgument: no such THING, RELATION", """
            new 3
            relation 3 3 3 = 0
            has 0 {-1 3 40 least most} 0 = IllegalArgument
            has 0 0 {-1 3 40 least most} = IllegalArgument
            has {-1 1 12 least most} 0 0 = IllegalArgument
            has 0 0 0 = false
            """);
    }

    private static void nextAndBack() {
        script.run("The i-th THING b, from 0, by numbers, with (a, b) a PAIR", """
            new 4
            relation 3 -1 -1 = 0
            next 0 {0 1 2 3} {-1 0 1 least most} = NoSuchElement
            set 0 1 3 = 0
            next 0 1 0 = 3
            next 0 1 {-1 1 2 least most} = NoSuchElement
            next 0 3 0 = NoSuchElement
            set 0 1 0 = 0
            set 0 1 2 = 0
            next 0 1 0 = 0
            next 0 1 1 = 2
            next 0 1 2 = 3
            next 0 1 {-1 3 4 least most} = NoSuchElement
            set 0 1 1 = 0
            next 0 1 1 = 1
            next 0 1 3 = 3
            next 0 1 {-1 4 least most} = NoSuchElement
            drop 0 1 0 = true
            next 0 1 0 = 1
            """);
        script.run("The i-th THING a with (a, b) a PAIR", """
            new 4
            relation 3 -1 -1 = 0
            back 0 {0 1 2 3} {-1 0 1 least most} = NoSuchElement
            set 0 3 1 = 0
            back 0 1 0 = 3
            back 0 1 {-1 1 2 least most} = NoSuchElement
            back 0 3 0 = NoSuchElement
            set 0 0 1 = 0
            set 0 2 1 = 0
            back 0 1 0 = 0
            back 0 1 1 = 2
            back 0 1 2 = 3
            back 0 1 {-1 3 4 least most} = NoSuchElement
            set 0 1 1 = 0
            back 0 1 1 = 1
            back 0 1 3 = 3
            back 0 1 {-1 4 least most} = NoSuchElement
            drop 0 0 1 = true
            back 0 1 0 = 1
            """);
    }

    private static void nextAndBackOfForty() {
        script.run("next, back: forty THINGS and all PAIRS, and none", """
            new 40
            relation 3 -1 -1 = 0
            condition 1 0 -1 = 1
            next 1 {0 39} 0 = 0
            next 1 {0 39} 31 = 31
            next 1 {0 39} 32 = 32
            next 1 {0 39} 39 = 39
            next 1 {0 39} {-1 40 least most} = NoSuchElement
            back 1 {0 39} 0 = 0
            back 1 {0 39} 31 = 31
            back 1 {0 39} 32 = 32
            back 1 {0 39} 39 = 39
            back 1 {0 39} {-1 40 least most} = NoSuchElement
            next 0 {0 39} {-1 0 39 40} = NoSuchElement
            back 0 {0 39} {-1 0 39 40} = NoSuchElement
            set 0 39 0 = 0
            next 1 39 0 = 1
            next 1 39 38 = 39
            next 1 39 39 = NoSuchElement
            back 1 0 38 = 38
            back 1 0 39 = NoSuchElement
            next 0 39 0 = 0
            back 0 0 0 = 39
            """);
    }

    private static void count() {
        script.run("How many PAIRS: none, all", """
            new 40
            relation 3 -1 -1 = 0
            relation 6 -1 -1 = 1
            relation 6 1 1 = 2
            condition 1 0 -1 = 3
            condition 1 3 -1 = 4
            condition 1 1 -1 = 5
            count {0 2 4} = 0
            count 1 = 40
            count 3 = 1600
            count 5 = 1560
            set 0 39 39 = 0
            count {0 4} = 1
            count 3 = 1599
            count {-1 6 12 least most} = IllegalArgument
            """);
        script.run("How many PAIRS: those that came along and went along count too", """
            new 4
            relation 4 -1 -1 = 0
            relation 5 -1 -1 = 1
            set {0 1} 0 1 = 0
            set {0 1} 2 3 = 0
            count {0 1} = 4
            set 0 1 2 = 2
            set 1 1 2 = 0
            count 0 = 2
            count 1 = 6
            set 1 3 3 = 0
            count 1 = 7
            """);
    }

    private static void length() {
        script.run("How many steps a ROUTE from a to b has; NONE", """
            new 4
            kind 3 1 = 0
            relation 3 0 0 = 0
            length 0 {0 1 2} 3 = -1
            length 0 3 {0 1 2} = -1
            length 0 3 3 = 0
            length 0 0 1 = -1
            set 0 0 1 = 0
            length 0 0 1 = 1
            length 0 1 0 = -1
            set 0 1 2 = 0
            length 0 0 2 = 2
            set 0 0 2 = 0
            length 0 0 2 = 1
            set 0 0 0 = 0
            length 0 0 0 = 0
            condition 1 0 -1 = 1
            length 1 3 0 = 1
            length 1 0 1 = 2
            walk 1 0 1 = 0 3 1
            """);
    }

    private static void route() {
        script.run("THING i, from 0, of the ROUTE from a to b", """
            new 4
            relation 3 -1 -1 = 0
            route 0 1 1 0 = 1
            route 0 1 1 {-1 1 2 least most} = NoSuchElement
            route 0 1 2 {-1 0 1 least most} = NoSuchElement
            set 0 1 2 = 0
            route 0 1 2 0 = 1
            route 0 1 2 1 = 2
            route 0 1 2 {-1 2 3 least most} = NoSuchElement
            set 0 2 0 = 0
            route 0 1 0 1 = 2
            route 0 1 0 2 = 0
            route 0 1 0 {-1 3 least most} = NoSuchElement
            route 0 0 1 {-1 0 1 least most} = NoSuchElement
            """);
    }

    private static void leader() {
        script.run("The least THING of a's CLASS", """
            new 5
            relation 6 -1 -1 = 0
            leader 0 0 = 0
            leader 0 4 = 4
            set 0 4 3 = 0
            leader 0 {3 4} = 3
            set 0 4 1 = 0
            leader 0 {1 3 4} = 1
            leader 0 2 = 2
            set 0 2 0 = 0
            set 0 2 3 = 0
            leader 0 {0 1 2 3 4} = 0
            drop 0 0 4 = true
            leader 0 0 = 0
            leader 0 {1 2 3 4} = 1
            empty 0 = 12
            leader 0 4 = 4
            """);
        script.run("IllegalArgument: also a is of another KIND", """
            new 4
            kind 0 1 = 0
            kind 3 2 = 0
            relation 6 0 0 = 0
            relation 6 1 1 = 1
            relation 6 3 3 = 2
            relation 6 -1 -1 = 3
            leader 0 {0 3} = IllegalArgument
            leader 0 1 = 1
            leader 0 2 = 2
            leader 1 {1 2 3} = IllegalArgument
            leader 1 0 = 0
            leader 2 {0 1 2 3} = IllegalArgument
            leader 3 0 = 0
            leader 3 3 = 3
            """);
        script.run("IllegalState: the RELATION is not of FORM 6", """
            new 3
            relation 0 -1 -1 = 0
            relation 1 -1 -1 = 1
            relation 2 -1 -1 = 2
            relation 3 -1 -1 = 3
            relation 4 -1 -1 = 4
            relation 5 -1 -1 = 5
            relation 6 -1 -1 = 6
            condition 0 6 -1 = 7
            condition 5 6 -1 = 8
            leader {0 1 2 3 4 5 7 8} {0 1 2} = IllegalState
            leader 6 2 = 2
            """);
    }

    private static void leaderOfForty() {
        StringBuilder lines = new StringBuilder("new 40\nrelation 6 -1 -1 = 0\n");
        for (int a = 39; a > 0; a--) {
            lines.append("set 0 " + a + " " + (a - 1) + " = 0\n");
            lines.append("leader 0 39 = " + (a - 1) + "\n");
        }
        script.run("The least THING of a's CLASS: of forty", lines.toString(), """
            leader 0 {0 31 32 39} = 0
            drop 0 0 39 = true
            leader 0 {1 31 32 39} = 1
            leader 0 0 = 0
            """);
    }

    private static void differ() {
        script.run("The first PAIR (by a, then by b): the first and the last there are", """
            new 40
            relation 3 -1 -1 = 0
            relation 3 -1 -1 = 1
            differ {0 1} {0 1} = -1
            set 0 39 39 = 0
            differ 0 1 = 1599
            differ 1 0 = 1599
            differ 0 0 = -1
            set 1 39 0 = 0
            differ 0 1 = 1560
            differ 1 0 = 1560
            set 0 0 39 = 0
            differ 0 1 = 39
            differ 1 0 = 39
            set 1 0 32 = 0
            differ 0 1 = 32
            set 0 0 31 = 0
            differ 1 0 = 31
            set 1 0 0 = 0
            differ 0 1 = 0
            differ 1 0 = 0
            """);
        script.run("a times 40 and b, also of fewer THINGS", """
            new 2
            relation 3 -1 -1 = 0
            relation 3 -1 -1 = 1
            set 0 1 1 = 0
            differ 0 1 = 41
            set 1 1 0 = 0
            differ 0 1 = 40
            set 0 0 1 = 0
            differ 0 1 = 1
            set 1 {0 1} {0 1} = 0
            set 0 {0 1} {0 1} = 0
            differ 0 1 = -1
            differ {-1 2 12 least most} {0 1} = IllegalArgument
            differ {0 1} {-1 2 12 least most} = IllegalArgument
            """);
    }

    private static void tally() {
        script.run("How often (a, b) was SET (also when it was there already), in all RELATIONS", """
            new 3
            relation 0 -1 -1 = 0
            relation 4 -1 -1 = 1
            relation 6 -1 -1 = 2
            condition 0 0 -1 = 3
            tally {0 1 2} {0 1 2} = 0
            set 0 0 1 = 0
            tally 0 1 = 1
            set 0 0 1 = 0
            tally 0 1 = 2
            set {1 2} 0 1 = 0
            tally 0 1 = 4
            tally 1 0 = 0
            set 1 1 0 = 0
            tally 1 0 = 1
            set 2 2 2 = 0
            tally 2 2 = 1
            set 0 0 2 = 1
            drop 0 0 2 = true
            empty 2 = 2
            tally 0 1 = 4
            tally 0 2 = 1
            set 3 0 1 = IllegalState
            set 1 0 0 = IllegalArgument
            set 4 0 1 = IllegalArgument
            tally 0 1 = 4
            tally 0 0 = 0
            """);
        script.run("since the beginning, or clear()", """
            new 3
            relation 3 -1 -1 = 0
            set 0 {0 2} {0 2} = 0
            tally {0 2} {0 2} = 1
            clear = 1
            tally {0 2} {0 2} = 0
            relation 3 -1 -1 = 0
            set 0 2 2 = 0
            set 0 2 2 = 0
            tally 2 2 = 2
            tally 2 0 = 0
            """);
        script.run("ArrayIndexOutOfBounds: there is no such THING", """
            new 3
            tally {-1 3 4 40 least most} {0 2} = ArrayIndexOutOfBounds
            tally {0 2} {-1 3 4 40 least most} = ArrayIndexOutOfBounds
            tally {-1 3 least most} {-1 3 least most} = ArrayIndexOutOfBounds
            relation 3 -1 -1 = 0
            set 0 1 0 = 0
            tally 0 3 = ArrayIndexOutOfBounds
            tally 2 -3 = ArrayIndexOutOfBounds
            """);
        script.run("tally: each PAIR has its own count", """
            new 40
            relation 3 -1 -1 = 0
            set 0 {0 1 39} {0 1 38 39} = 0
            set 0 39 39 = 0
            tally {0 1} {0 1 38 39} = 1
            tally 39 39 = 2
            tally 38 {0 39} = 0
            tally 2 0 = 0
            """);
    }

    private static void of() {
        script.run("What = 0 how many THINGS, 1 RELATIONS, 2 PUSHED OUT by the last set()", """
            new 5
            of 0 = 5
            of 1 = 0
            of 2 = 0
            of {-1 3 4 least most} = IllegalArgument
            relation 0 -1 -1 = 0
            condition 1 0 -1 = 1
            of 0 = 5
            of 1 = 2
            set 0 0 1 = 0
            set 0 2 3 = 0
            of 2 = 0
            set 0 0 2 = 1
            of 2 = 1
            set 0 2 2 = 2
            of 2 = 2
            of {-1 3 least most} = IllegalArgument
            set 0 2 2 = 0
            of 2 = 0
            """);
    }

    private static void told() {
        script.run("Of a RELATION: its FORM, or 10 and its CONDITION; its KINDS, or r and s", """
            new 3
            relation 0 3 -1 = 0
            relation 6 -1 -1 = 1
            condition 0 1 -1 = 2
            condition 5 2 -1 = 3
            condition 4 3 0 = 4
            told 0 0 = 0
            told 0 1 = 3
            told 0 2 = -1
            told 1 0 = 6
            told 1 {1 2} = -1
            told 2 0 = 10
            told 2 1 = 1
            told 2 2 = -1
            told 3 0 = 15
            told 3 1 = 2
            told 4 0 = 14
            told 4 1 = 3
            told 4 2 = 0
            told {0 1 2 3 4} {-1 3 10 least most} = IllegalArgument
            told {-1 5 12 least most} {-1 0 1 2 3} = IllegalArgument
            """);
    }

    private static void oneThing() {
        script.run("one THING: its only PAIR, in each FORM", """
            new 1
            relation 0 0 0 = 0
            relation 1 0 0 = 1
            relation 2 0 0 = 2
            relation 3 0 0 = 3
            relation 4 0 0 = 4
            relation 5 0 0 = 5
            relation 6 0 0 = 6
            count {0 1 2 3 4 5} = 0
            count 6 = 1
            set {0 1 2 3 5 6} 0 0 = 0
            set 4 0 0 = IllegalArgument
            set {0 1 2 3 5 6} 0 0 = 0
            tally 0 0 = 12
            of 2 = 0
            count {0 1 2 3 5 6} = 1
            count 4 = 0
            next {0 1 2 3 5 6} 0 0 = 0
            back {0 1 2 3 5 6} 0 0 = 0
            next {0 1 2 3 4 5 6} 0 1 = NoSuchElement
            next 4 0 0 = NoSuchElement
            length {0 1 2 3 4 5 6} 0 0 = 0
            differ 0 {1 2 3 5 6} = -1
            differ 0 4 = 0
            condition 1 0 -1 = 7
            condition 5 0 -1 = 8
            condition 4 0 6 = 9
            count 7 = 0
            count {8 9} = 1
            drop {0 1 2 3 5} 0 0 = true
            drop 6 0 0 = false
            count 7 = 1
            count {8 9} = 0
            empty {0 1 2 3 4 5 6} = 0
            clear = 10
            of 0 = 1
            """);
    }
}
