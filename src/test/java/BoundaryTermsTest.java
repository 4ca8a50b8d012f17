/** The boundary cases that the document names under "Terms", a part a sentence. */
public final class BoundaryTermsTest {
    private static final Due due = new Due();
    private static final Script script = new Script(due);

    public static void main(String[] args) {
        thingsOfEverySize();
        kinds();
        noRelation();
        someRelations();
        twelveRelations();
        forms();
        kindsOfARelation();
        likeKinds();
        whatFits();
        whatFitsInLikeKinds();
        oneToOne();
        oneToMany();
        manyToOne();
        manyToMany();
        twins();
        mutual();
        classes();
        conditions();
        conditionsOnNothingAndOnAll();
        turned();
        not();
        both();
        either();
        through();
        far();
        conditionsJustThen();
        noneOfThemIsSet();
        pushedOutOfOneToOne();
        pushedOutOfOneSide();
        pushedOutOfTwins();
        pushesNothingOut();
        classesBecomeOne();
        pairsThatGo();
        aloneThen();
        routes();
        longestRoute();
        firstExceptionOfSeveral();
        due.end();
    }

    private static void thingsOfEverySize() {
        for (int n : new int[] {1, 2, 5, 31, 32, 33, 39, 40}) {
            script.run("THINGS 0 .. n - 1, n is " + n, """
                new N
                kind BAD {0 3} = IllegalArgument
                kind LAST 3 = 0
                kind LAST 0 = 3
                relation 3 -1 -1 = 0
                relation 6 -1 -1 = 1
                condition 1 0 -1 = 2
                kind BAD {0 4} = IllegalArgument
                set {0 1 2} BAD {0 LAST} = IllegalArgument
                set {0 1 2} {0 LAST} BAD = IllegalArgument
                set 0 BAD BAD = IllegalArgument
                drop {0 1 2} BAD {0 LAST} = IllegalArgument
                drop {0 1 2} {0 LAST} BAD = IllegalArgument
                drop 0 BAD BAD = IllegalArgument
                has {0 1 2} BAD {0 LAST} = IllegalArgument
                has {0 1 2} {0 LAST} BAD = IllegalArgument
                has 0 BAD BAD = IllegalArgument
                next {0 1 2} BAD {-1 0} = IllegalArgument
                back {0 1 2} BAD {-1 0} = IllegalArgument
                length {0 1 2} BAD {0 LAST} = IllegalArgument
                length {0 1 2} {0 LAST} BAD = IllegalArgument
                length 0 BAD BAD = IllegalArgument
                route {0 1 2} BAD 0 {-1 0} = IllegalArgument
                route {0 1 2} 0 BAD {-1 0} = IllegalArgument
                route 0 BAD BAD 0 = IllegalArgument
                leader {0 1 2} BAD = IllegalArgument
                tally BAD {0 LAST} = ArrayIndexOutOfBounds
                tally {0 LAST} BAD = ArrayIndexOutOfBounds
                tally BAD BAD = ArrayIndexOutOfBounds
                set 0 LAST LAST = 0
                has {0 1} LAST LAST = true
                has 2 LAST LAST = false
                next {0 1} LAST 0 = LAST
                back {0 1} LAST 0 = LAST
                length {0 1 2} LAST LAST = 0
                route {0 1 2} LAST LAST 0 = LAST
                leader 1 LAST = LAST
                tally LAST LAST = 1
                drop 0 LAST LAST = true
                has 2 LAST LAST = true
                set 1 0 LAST = 0
                leader 1 LAST = 0
                next 1 LAST 0 = 0
                length 1 LAST LAST = 0
                """.replace("BAD", "{-1 N least most}").replace("LAST", "" + (n - 1)).replace("N", "" + n));
        }
    }

    private static void kinds() {
        script.run("have KINDS 0 .. 3", """
            new 3
            kind {0 1 2} {-1 4 least most} = IllegalArgument
            kind 1 3 = 0
            kind {0 1 2} {-1 4 least most} = IllegalArgument
            kind 1 2 = 3
            kind 1 1 = 2
            kind 1 0 = 1
            kind 1 0 = 0
            """);
        script.run("(0 at first)", """
            new 40
            kind {0 1 31 32 39} 0 = 0
            relation 6 0 0 = 0
            relation 6 1 1 = 1
            relation 6 2 2 = 2
            relation 6 3 3 = 3
            count 0 = 40
            count {1 2 3} = 0
            """);
    }

    private static void noRelation() {
        String calls = wrongRelations("{-1 0 1 11 12 least most}") + "of 1 = 0\n";
        script.run("RELATIONS are numbered 0, 1, ..: there is none", "new 3\n", calls);
        script.run("RELATIONS are numbered 0, 1, ..: there is none behind clear()", """
            new 3
            relation 3 -1 -1 = 0
            relation 6 -1 -1 = 1
            set 0 0 1 = 0
            clear = 2
            """, calls);
    }

    private static void someRelations() {
        script.run("RELATIONS are numbered 0, 1, .. as they come: there are two", """
            new 3
            relation 6 -1 -1 = 0
            condition 1 0 -1 = 1
            """, wrongRelations("{-1 2 3 11 12 least most}"), """
            told 1 0 = 11
            count 1 = 6
            differ 0 1 = 0
            relation 3 -1 -1 = 2
            count 2 = 0
            """);
    }

    private static String wrongRelations(String bad) {
        return """
            condition {0 1 5} BAD -1 = IllegalArgument
            condition {2 3 4} BAD 0 = IllegalArgument
            condition {2 3 4} 0 BAD = IllegalArgument
            condition {2 3 4} BAD BAD = IllegalArgument
            set BAD 0 1 = IllegalArgument
            drop BAD 0 1 = IllegalArgument
            empty BAD = IllegalArgument
            has BAD 0 1 = IllegalArgument
            next BAD 0 {-1 0} = IllegalArgument
            back BAD 0 {-1 0} = IllegalArgument
            count BAD = IllegalArgument
            length BAD 0 0 = IllegalArgument
            route BAD 0 0 {-1 0} = IllegalArgument
            leader BAD 0 = IllegalArgument
            differ BAD 0 = IllegalArgument
            differ 0 BAD = IllegalArgument
            differ BAD BAD = IllegalArgument
            told BAD {-1 0 3} = IllegalArgument
            """.replace("BAD", bad);
    }

    private static void twelveRelations() {
        String twelve = """
            new 3
            relation 0 -1 -1 = 0
            relation 1 -1 -1 = 1
            relation 2 -1 -1 = 2
            relation 3 -1 -1 = 3
            relation 4 -1 -1 = 4
            relation 5 -1 -1 = 5
            relation 6 -1 -1 = 6
            condition 0 3 -1 = 7
            condition 1 3 -1 = 8
            condition 3 3 8 = 9
            of 1 = 10
            """;
        script.run("RELATIONS, 12 at most: the twelfth is of a FORM", twelve, """
            condition 5 9 -1 = 10
            relation 3 -1 -1 = 11
            of 1 = 12
            relation {0 1 2 3 4 5 6} -1 -1 = IllegalState
            condition {0 1 5} {0 11} -1 = IllegalState
            condition {2 3 4} {0 11} {0 11} = IllegalState
            """, wrongRelations("{-1 12 13 least most}"), """
            set 11 2 2 = 0
            has 11 2 2 = true
            next 11 2 0 = 2
            back 11 2 0 = 2
            count 11 = 1
            length 11 2 2 = 0
            route 11 2 2 0 = 2
            leader 11 2 = IllegalState
            differ 11 0 = 82
            differ 0 11 = 82
            told 11 0 = 3
            tally 2 2 = 1
            drop 11 2 2 = true
            set 11 0 1 = 0
            empty 11 = 1
            clear = 12
            relation 6 -1 -1 = 0
            of 1 = 1
            """);
        script.run("RELATIONS, 12 at most: the twelfth is by a CONDITION", twelve, """
            relation 6 -1 -1 = 10
            condition 4 10 10 = 11
            of 1 = 12
            relation {0 6} -1 -1 = IllegalState
            condition {0 1 5} {0 11} -1 = IllegalState
            condition {2 3 4} {0 11} {0 11} = IllegalState
            set 10 0 2 = 0
            count 11 = 5
            has 11 2 0 = true
            told 11 {1 2} = 10
            set 11 0 0 = IllegalState
            drop 11 0 0 = IllegalState
            empty 11 = IllegalState
            leader 11 0 = IllegalState
            """);
    }

    private static void forms() {
        script.run("One of a FORM 0 .. 6", """
            new 2
            relation {-1 7 8 10 11 16 least most} {-1 0 3} {-1 0 3} = IllegalArgument
            relation 0 0 0 = 0
            relation {-1 7 least most} 0 0 = IllegalArgument
            relation 6 0 0 = 1
            told 0 0 = 0
            told 1 0 = 6
            """);
    }

    private static void kindsOfARelation() {
        for (int form = 0; form <= 3; form++) {
            for (int first = -1; first <= 3; first++) {
                for (int second = -1; second <= 3; second++) {
                    script.run("two KINDS, each 0 .. 3 or NONE (any)", """
                        new 2
                        relation FORM FIRST SECOND = 0
                        told 0 0 = FORM
                        told 0 1 = FIRST
                        told 0 2 = SECOND
                        """.replace("FORM", "" + form).replace("FIRST", "" + first)
                        .replace("SECOND", "" + second));
                }
            }
        }
        script.run("two KINDS, each 0 .. 3 or NONE: others", """
            new 2
            relation {0 1 2 3 4 5 6} {-2 4 least most} {-1 0 3} = IllegalArgument
            relation {0 1 2 3 4 5 6} {-1 0 3} {-2 4 least most} = IllegalArgument
            relation {0 1 2 3 4 5 6} -2 -2 = IllegalArgument
            relation {0 1 2 3 4 5 6} 4 4 = IllegalArgument
            """);
    }

    private static void likeKinds() {
        for (int first = -1; first <= 3; first++) {
            for (int second = -1; second <= 3; second++) {
                String pair = first + " " + second;
                if (first != second) {
                    script.run("FORMS 4, 5, 6 have like KINDS: unlike", """
                        new 2
                        relation {4 5 6} PAIR = IllegalArgument
                        """.replace("PAIR", pair));
                } else {
                    script.run("FORMS 4, 5, 6 have like KINDS: like", """
                        new 2
                        relation 4 PAIR = 0
                        relation 5 PAIR = 1
                        relation 6 PAIR = 2
                        told {0 1 2} {1 2} = KIND
                        """.replace("PAIR", pair).replace("KIND", "" + first));
                }
            }
        }
    }

    /** Things 0, 1, 2, 3 are of these kinds, and thing 4 is of kind 0 too. */
    private static final String FIVE = """
        new 5
        kind 1 1 = 0
        kind 2 2 = 0
        kind 3 3 = 0
        """;

    private static boolean isOf(int thing, int kind) {
        return kind == -1 || kind == thing % 4;
    }

    private static void whatFits() {
        for (int form = 0; form <= 3; form++) {
            for (int first = -1; first <= 3; first++) {
                for (int second = -1; second <= 3; second++) {
                    StringBuilder lines = new StringBuilder();
                    for (int pair = 0; pair < 25; pair++) {
                        boolean fits = isOf(pair / 5, first) && isOf(pair % 5, second);
                        lines.append((fits ? FITS : FITS_NOT).replace("PAIR", pair / 5 + " " + pair % 5));
                    }
                    script.run("a PAIR (a, b) FITS, if a is of the first one, b of the second", FIVE,
                        "relation " + form + " " + first + " " + second + " = 0\n", lines.toString());
                }
            }
        }
    }

    private static final String FITS = """
        drop 0 PAIR = false
        set 0 PAIR = 0
        has 0 PAIR = true
        drop 0 PAIR = true
        """;

    private static final String FITS_NOT = """
        drop 0 PAIR = IllegalArgument
        set 0 PAIR = IllegalArgument
        has 0 PAIR = false
        """;

    private static void whatFitsInLikeKinds() {
        for (int form = 4; form <= 6; form++) {
            for (int kind = -1; kind <= 3; kind++) {
                StringBuilder lines = new StringBuilder();
                for (int pair = 0; pair < 25; pair++) {
                    int a = pair / 5;
                    int b = pair % 5;
                    boolean fits = isOf(a, kind) && isOf(b, kind) && !(form == 4 && a == b);
                    String stays = """
                        set 0 PAIR = 0
                        has 0 PAIR = true
                        drop 0 PAIR = false
                        has 0 PAIR = true
                        """;
                    String asked = !fits ? FITS_NOT : form == 6 && a == b ? stays : FITS;
                    lines.append(asked.replace("PAIR", a + " " + b));
                }
                script.run("a PAIR FITS in FORMS 4, 5, 6", FIVE,
                    "relation " + form + " " + kind + " " + kind + " = 0\n", lines.toString());
            }
        }
    }

    private static void oneToOne() {
        script.run("0 ONE TO ONE: no THING is twice first, none twice second", """
            new 3
            relation 0 -1 -1 = 0
            set 0 0 1 = 0
            set 0 1 2 = 0
            set 0 2 0 = 0
            pairs 0 = 01 12 20
            set 0 0 2 = 2
            pairs 0 = 02 20
            set 0 2 2 = 2
            pairs 0 = 22
            set 0 0 0 = 0
            set 0 1 1 = 0
            pairs 0 = 00 11 22
            """);
    }

    private static void oneToMany() {
        script.run("1 ONE TO MANY: none is twice second", """
            new 3
            relation 1 -1 -1 = 0
            set 0 1 {0 1 2} = 0
            pairs 0 = 10 11 12
            set 0 2 {0 1 2} = 1
            pairs 0 = 20 21 22
            set 0 0 2 = 1
            pairs 0 = 02 20 21
            """);
    }

    private static void manyToOne() {
        script.run("2 MANY TO ONE: none is twice first", """
            new 3
            relation 2 -1 -1 = 0
            set 0 {0 1 2} 1 = 0
            pairs 0 = 01 11 21
            set 0 {0 1 2} 2 = 1
            pairs 0 = 02 12 22
            set 0 2 0 = 1
            pairs 0 = 02 12 20
            """);
    }

    private static void manyToMany() {
        script.run("3 MANY TO MANY", """
            new 3
            relation 3 -1 -1 = 0
            pairs 0 =
            set 0 {0 1 2} {0 1 2} = 0
            pairs 0 = 00 01 02 10 11 12 20 21 22
            set 0 {0 1 2} {0 1 2} = 0
            count 0 = 9
            drop 0 {0 2} {0 2} = true
            pairs 0 = 01 10 11 12 21
            """);
    }

    private static void twins() {
        script.run("4 TWINS: with (a, b) also (b, a); no THING is twice first", """
            new 4
            relation 4 -1 -1 = 0
            set 0 3 0 = 0
            pairs 0 = 03 30
            set 0 1 2 = 0
            pairs 0 = 03 12 21 30
            set 0 0 1 = 2
            pairs 0 = 01 10
            """);
        script.run("4 TWINS: none is with itself", """
            new 2
            relation 4 -1 -1 = 0
            set 0 0 0 = IllegalArgument
            set 0 1 1 = IllegalArgument
            drop 0 0 0 = IllegalArgument
            has 0 0 0 = false
            set 0 0 1 = 0
            set 0 0 0 = IllegalArgument
            set 0 1 1 = IllegalArgument
            drop 0 1 1 = IllegalArgument
            has 0 1 1 = false
            pairs 0 = 01 10
            """);
        script.run("4 TWINS: one THING has none", """
            new 1
            relation 4 -1 -1 = 0
            set 0 0 0 = IllegalArgument
            drop 0 0 0 = IllegalArgument
            count 0 = 0
            """);
    }

    private static void mutual() {
        script.run("5 MUTUAL: with (a, b) also (b, a)", """
            new 3
            relation 5 -1 -1 = 0
            set 0 2 0 = 0
            pairs 0 = 02 20
            set 0 0 2 = 0
            set 0 1 1 = 0
            pairs 0 = 02 11 20
            set 0 1 {0 2} = 0
            set 0 0 0 = 0
            set 0 2 2 = 0
            pairs 0 = 00 01 02 10 11 12 20 21 22
            """);
    }

    private static void classes() {
        script.run("6 CLASSES: all THINGS of its KIND are in CLASSES, each alone at first", FIVE, """
            relation 6 -1 -1 = 0
            relation 6 0 0 = 1
            relation 6 1 1 = 2
            relation 6 3 3 = 3
            pairs 0 = 00 11 22 33 44
            pairs 1 = 00 44
            pairs 2 = 11
            pairs 3 = 33
            set 1 0 4 = 0
            pairs 1 = 00 04 40 44
            pairs 0 = 00 11 22 33 44
            """);
        script.run("6 CLASSES: of a KIND that no THING has", """
            new 2
            relation 6 1 1 = 0
            count 0 = 0
            set 0 0 0 = IllegalArgument
            drop 0 0 0 = IllegalArgument
            leader 0 0 = IllegalArgument
            empty 0 = 0
            condition 1 0 -1 = 1
            count 1 = 4
            """);
        script.run("6 CLASSES: (a, b) is a PAIR, if both are in one CLASS", """
            new 4
            relation 6 -1 -1 = 0
            set 0 3 1 = 0
            pairs 0 = 00 11 13 22 31 33
            set 0 0 3 = 0
            pairs 0 = 00 01 03 10 11 13 22 30 31 33
            set 0 2 0 = 0
            count 0 = 16
            """);
    }

    private static void conditions() {
        script.run("a CONDITION is 0 .. 5", """
            new 2
            relation 3 -1 -1 = 0
            condition {-1 6 7 10 15 least most} 0 {-1 0} = IllegalArgument
            condition 0 0 -1 = 1
            condition 5 0 -1 = 2
            told 1 0 = 10
            told 2 0 = 15
            condition {-1 6 least most} 0 0 = IllegalArgument
            """);
        script.run("a CONDITION on r (and s, NONE where one is enough)", """
            new 2
            relation 3 -1 -1 = 0
            relation 3 -1 -1 = 1
            condition {0 1 5} {0 1} {-2 0 1 2 11 12 least most} = IllegalArgument
            condition {2 3 4} {0 1} {-2 -1 2 11 12 least most} = IllegalArgument
            condition {0 1 2 3 4 5} -1 -1 = IllegalArgument
            condition 0 1 -1 = 2
            condition 1 0 -1 = 3
            condition 2 1 0 = 4
            condition 3 1 1 = 5
            condition 4 5 2 = 6
            condition 5 6 -1 = 7
            told {2 3 7} 2 = -1
            told {2 4 5} 1 = 1
            told 4 2 = 0
            told 5 2 = 1
            told 6 1 = 5
            told 6 2 = 2
            told 7 1 = 6
            """);
    }

    private static void conditionsOnNothingAndOnAll() {
        for (int n : new int[] {1, 2, 3, 32, 40}) {
            script.run("CONDITIONS on a RELATION without PAIRS and on one with all, n is " + n, """
                new N
                relation 3 -1 -1 = 0
                condition 1 0 -1 = 1
                count 0 = 0
                count 1 = ALL
                condition 0 0 -1 = 2
                condition 5 0 -1 = 3
                condition 2 0 1 = 4
                condition 4 0 1 = 5
                condition 4 1 0 = 6
                count {2 3 4 5 6} = 0
                condition 0 1 -1 = 7
                condition 5 1 -1 = 8
                condition 3 0 1 = 9
                condition 4 1 1 = 10
                condition 1 1 -1 = 11
                count {7 8 9 10} = ALL
                count 11 = 0
                differ 1 {7 8 9 10} = -1
                differ 0 {2 3 4 5 6 11} = -1
                differ 0 1 = 0
                """.replace("N", "" + n).replace("ALL", "" + n * n));
        }
    }

    private static final String CHAIN = """
        new 4
        relation 3 -1 -1 = 0
        relation 3 -1 -1 = 1
        set 0 0 1 = 0
        set 0 1 2 = 0
        set 0 2 3 = 0
        """;

    private static void turned() {
        script.run("0 TURNED: (a, b), if (b, a) is one of r", CHAIN, """
            set 0 3 3 = 0
            condition 0 0 -1 = 2
            pairs 2 = 10 21 32 33
            condition 0 2 -1 = 3
            differ 0 3 = -1
            relation 6 -1 -1 = 4
            set 4 0 3 = 0
            condition 0 4 -1 = 5
            differ 4 5 = -1
            """);
    }

    private static void not() {
        script.run("1 NOT: if it is none of r", CHAIN, """
            condition 1 0 -1 = 2
            pairs 2 = 00 02 03 10 11 13 20 21 22 30 31 32 33
            """);
        script.run("1 NOT: a PAIR that does not FIT is none of r", FIVE, """
            relation 3 0 1 = 0
            set 0 0 1 = 0
            condition 1 0 -1 = 1
            has 1 0 1 = false
            has 1 4 1 = true
            has 1 3 3 = true
            count 1 = 24
            relation 4 -1 -1 = 2
            condition 1 2 -1 = 3
            has 3 2 2 = true
            count 3 = 25
            """);
    }

    private static void both() {
        script.run("2 BOTH: one of r and of s", CHAIN, """
            set 1 1 2 = 0
            set 1 2 1 = 0
            set 1 3 3 = 0
            condition 2 0 1 = 2
            condition 2 1 0 = 3
            condition 2 1 1 = 4
            pairs 2 = 12
            pairs 3 = 12
            pairs 4 = 12 21 33
            """);
    }

    private static void either() {
        script.run("3 EITHER", CHAIN, """
            set 1 1 2 = 0
            set 1 2 1 = 0
            set 1 3 3 = 0
            condition 3 0 1 = 2
            condition 3 1 0 = 3
            condition 3 1 1 = 4
            pairs 2 = 01 12 21 23 33
            pairs 3 = 01 12 21 23 33
            pairs 4 = 12 21 33
            """);
    }

    private static void through() {
        script.run("4 THROUGH: if for some c (a, c) is one of r and (c, b) one of s", CHAIN, """
            set 1 3 0 = 0
            set 1 1 1 = 0
            condition 4 0 1 = 2
            condition 4 1 0 = 3
            condition 4 0 0 = 4
            pairs 2 = 01 20
            pairs 3 = 12 31
            pairs 4 = 02 13
            set 0 3 3 = 0
            pairs 4 = 02 13 23 33
            pairs 2 = 01 20 30
            """);
    }

    private static void far() {
        script.run("5 FAR: a row of THINGS a, .., b, two at least, each with the next one a PAIR of r", CHAIN, """
            condition 5 0 -1 = 2
            pairs 2 = 01 02 03 12 13 23
            has 2 {0 3} 0 = false
            set 0 2 2 = 0
            pairs 2 = 01 02 03 12 13 22 23
            set 0 1 0 = 0
            pairs 2 = 00 01 02 03 10 11 12 13 22 23
            drop 0 1 2 = true
            pairs 2 = 00 01 10 11 22 23
            set 0 3 0 = 0
            pairs 2 = 00 01 10 11 20 21 22 23 30 31
            """);
        script.run("5 FAR: one THING", """
            new 1
            relation 3 -1 -1 = 0
            condition 5 0 -1 = 1
            has 1 0 0 = false
            set 0 0 0 = 0
            has 1 0 0 = true
            drop 0 0 0 = true
            has 1 0 0 = false
            """);
        script.run("5 FAR: the longest row, and a ring of forty", chainOfForty(), """
            condition 5 0 -1 = 1
            has 1 0 39 = true
            has 1 39 0 = false
            has 1 {0 39} 0 = false
            count 1 = 780
            set 0 39 0 = 0
            count 1 = 1600
            """);
    }

    private static void conditionsJustThen() {
        script.run("A RELATION by a CONDITION has PAIRS as others have them just then", """
            new 4
            relation 0 -1 -1 = 0
            condition 0 0 -1 = 1
            condition 1 1 -1 = 2
            relation 6 -1 -1 = 3
            condition 4 3 0 = 4
            condition 5 4 -1 = 5
            pairs 1 =
            count 2 = 16
            set 0 0 1 = 0
            pairs 1 = 10
            count 2 = 15
            pairs 4 = 01
            set 0 0 2 = 1
            pairs 1 = 20
            has 2 1 0 = true
            has 2 2 0 = false
            pairs 4 = 02
            set 3 2 3 = 0
            set 3 0 2 = 0
            pairs 4 = 02 22 32
            pairs 5 = 02 22 32
            set 0 2 1 = 0
            pairs 4 = 01 02 21 22 31 32
            drop 3 2 0 = true
            pairs 4 = 02 21 32
            drop 0 0 2 = true
            pairs 4 = 21
            empty 3 = 2
            pairs 4 = 21
            empty 0 = 1
            count {1 4 5} = 0
            count 2 = 16
            """);
    }

    private static void noneOfThemIsSet() {
        script.run("and none of them is set", """
            new 3
            relation 3 -1 -1 = 0
            relation 0 -1 -1 = 1
            condition 0 0 -1 = 2
            condition 1 0 -1 = 3
            condition 2 0 3 = 4
            condition 3 0 3 = 5
            condition 4 3 3 = 6
            condition 5 3 -1 = 7
            set 0 0 1 = 0
            set 1 0 1 = 0
            set 1 0 2 = 1
            set {2 3 4 5 6 7} {0 1} {0 1 2} = IllegalState
            drop {2 3 4 5 6 7} {0 1} {0 1 2} = IllegalState
            empty {2 3 4 5 6 7} = IllegalState
            out = 01
            tally 0 1 = 2
            tally 0 0 = 0
            """);
    }

    private static void pushedOutOfOneToOne() {
        String first = """
            new 5
            relation 0 -1 -1 = 0
            """;
        String sentence = "FORM 0: (a, x), then (x, b): ";
        script.run(sentence + "neither", first, """
            set 0 3 4 = 0
            set 0 1 2 = 0
            out =
            pairs 0 = 12 34
            """);
        script.run(sentence + "(a, x) alone", first, """
            set 0 1 4 = 0
            set 0 1 2 = 1
            out = 14
            pairs 0 = 12
            """);
        script.run(sentence + "(x, b) alone", first, """
            set 0 4 2 = 0
            set 0 1 2 = 1
            out = 42
            pairs 0 = 12
            """);
        script.run(sentence + "both", first, """
            set 0 0 2 = 0
            set 0 4 0 = 0
            set 0 4 2 = 2
            out = 40 02
            pairs 0 = 42
            set 0 1 4 = 0
            set 0 1 2 = 2
            out = 14 42
            pairs 0 = 12
            """);
        script.run(sentence + "a is b", first, """
            set 0 1 0 = 0
            set 0 4 1 = 0
            set 0 1 1 = 2
            out = 10 41
            set 0 1 2 = 1
            out = 11
            set 0 2 2 = 1
            out = 12
            pairs 0 = 22
            """);
        script.run(sentence + "it was one already", first, """
            set 0 1 2 = 0
            set 0 1 3 = 1
            set 0 1 3 = 0
            out =
            pairs 0 = 13
            """);
        script.run(sentence + "(b, a) stays", first, """
            set 0 2 1 = 0
            set 0 1 2 = 0
            pairs 0 = 12 21
            """);
    }

    private static void pushedOutOfOneSide() {
        script.run("1: (x, b)", """
            new 4
            relation 1 -1 -1 = 0
            set 0 0 {1 2} = 0
            set 0 3 3 = 0
            set 0 3 1 = 1
            out = 01
            pairs 0 = 02 31 33
            set 0 1 1 = 1
            out = 31
            set 0 1 3 = 1
            out = 33
            set 0 1 3 = 0
            out =
            pairs 0 = 02 11 13
            """);
        script.run("2: (a, x)", """
            new 4
            relation 2 -1 -1 = 0
            set 0 {1 2} 0 = 0
            set 0 3 3 = 0
            set 0 1 3 = 1
            out = 10
            pairs 0 = 13 20 33
            set 0 1 1 = 1
            out = 13
            set 0 3 1 = 1
            out = 33
            set 0 3 1 = 0
            out =
            pairs 0 = 11 20 31
            """);
    }

    private static void pushedOutOfTwins() {
        String first = """
            new 6
            relation 4 -1 -1 = 0
            """;
        String sentence = "4: (a, x), then (b, x) (and each the other way round, which is not told): ";
        script.run(sentence + "neither", first, """
            set 0 4 5 = 0
            set 0 1 2 = 0
            out =
            pairs 0 = 12 21 45 54
            """);
        script.run(sentence + "(a, x) alone", first, """
            set 0 0 4 = 0
            set 0 4 2 = 1
            out = 40
            pairs 0 = 24 42
            """);
        script.run(sentence + "(b, x) alone", first, """
            set 0 0 4 = 0
            set 0 2 4 = 1
            out = 40
            pairs 0 = 24 42
            """);
        script.run(sentence + "both", first, """
            set 0 0 1 = 0
            set 0 4 5 = 0
            set 0 5 0 = 2
            out = 54 01
            pairs 0 = 05 50
            set 0 2 3 = 0
            set 0 0 3 = 2
            out = 05 32
            pairs 0 = 03 30
            """);
        script.run(sentence + "it was one already, also the other way round", first, """
            set 0 0 1 = 0
            set 0 0 2 = 1
            set 0 2 0 = 0
            out =
            set 0 0 2 = 0
            out =
            pairs 0 = 02 20
            """);
    }

    private static void pushesNothingOut() {
        for (int form : new int[] {3, 5, 6}) {
            script.run("3, 5, 6: none", """
                new 4
                relation 0 -1 -1 = 0
                relation FORM -1 -1 = 1
                set 0 0 1 = 0
                set 0 0 2 = 1
                set 1 0 {0 1 2} = 0
                out =
                set 1 {1 2 3} 2 = 0
                set 1 3 {1 3} = 0
                out =
                has 1 0 {0 1 2} = true
                has 1 {1 2 3} 2 = true
                """.replace("FORM", "" + form));
        }
    }

    private static void classesBecomeOne() {
        script.run("In FORM 6 both CLASSES become one", """
            new 6
            relation 6 -1 -1 = 0
            set 0 0 5 = 0
            set 0 1 4 = 0
            set 0 5 4 = 0
            pairs 0 = 00 01 04 05 10 11 14 15 22 33 40 41 44 45 50 51 54 55
            set 0 0 1 = 0
            set 0 2 2 = 0
            count 0 = 18
            set 0 2 3 = 0
            count 0 = 20
            set 0 3 0 = 0
            count 0 = 36
            """);
    }

    private static void pairsThatGo() {
        script.run("A PAIR (a, b) that goes: in FORMS 4, 5 also (b, a)", """
            new 4
            relation 4 -1 -1 = 0
            relation 5 -1 -1 = 1
            set {0 1} 0 1 = 0
            set {0 1} 2 3 = 0
            set 1 1 1 = 0
            set 1 1 2 = 0
            drop {0 1} 1 0 = true
            pairs 0 = 23 32
            pairs 1 = 11 12 21 23 32
            drop {0 1} 0 1 = false
            drop {0 1} 2 3 = true
            drop 1 1 1 = true
            pairs 0 =
            pairs 1 = 12 21
            """);
        script.run("A PAIR (a, b) that goes: in FORMS 0 .. 3 no other", """
            new 3
            relation 0 -1 -1 = 0
            relation 1 -1 -1 = 1
            relation 2 -1 -1 = 2
            relation 3 -1 -1 = 3
            set {0 1 2 3} 0 1 = 0
            set {0 1 2 3} 1 0 = 0
            set {0 1 2 3} 2 2 = 0
            drop {0 1 2 3} 0 1 = true
            drop {0 1 2 3} 0 1 = false
            pairs 0 = 10 22
            pairs 1 = 10 22
            pairs 2 = 10 22
            pairs 3 = 10 22
            """);
    }

    private static void aloneThen() {
        script.run("in FORM 6 a is alone then (if a is not b)", """
            new 4
            relation 6 -1 -1 = 0
            set 0 0 1 = 0
            set 0 2 3 = 0
            drop 0 0 2 = false
            drop 0 0 0 = false
            drop 0 3 3 = false
            pairs 0 = 00 01 10 11 22 23 32 33
            set 0 1 2 = 0
            drop 0 1 3 = true
            pairs 0 = 00 02 03 11 20 22 23 30 32 33
            drop 0 1 3 = false
            drop 0 3 1 = false
            drop 0 0 0 = false
            drop 0 3 0 = true
            pairs 0 = 00 02 11 20 22 33
            drop 0 0 2 = true
            pairs 0 = 00 11 22 33
            drop 0 0 2 = false
            """);
    }

    private static void routes() {
        script.run("A ROUTE from a to b: a alone, if a is b", """
            new 3
            kind 2 1 = 0
            relation 3 0 1 = 0
            relation 6 1 1 = 1
            walk 0 0 0 = 0
            walk 0 2 2 = 2
            walk 1 0 0 = 0
            walk 1 2 2 = 2
            relation 3 -1 -1 = 2
            set 2 1 1 = 0
            set 2 1 0 = 0
            set 2 0 1 = 0
            walk 2 1 1 = 1
            walk 2 0 0 = 0
            """);
        script.run("A ROUTE: there is none", """
            new 3
            relation 3 -1 -1 = 0
            walk 0 0 1 =
            set 0 0 1 = 0
            set 0 2 2 = 0
            walk 0 1 0 =
            walk 0 0 2 =
            walk 0 0 1 = 0 1
            drop 0 0 1 = true
            walk 0 0 1 =
            """);
        script.run("A ROUTE: others lead to a THING that leads nowhere", """
            new 5
            relation 3 -1 -1 = 0
            set 0 {1 2} 0 = 0
            set 0 {1 2} 4 = 0
            walk 0 1 3 =
            walk 0 2 3 =
            set 0 2 3 = 0
            walk 0 1 3 =
            walk 0 2 3 = 2 3
            set 0 4 2 = 0
            walk 0 1 3 = 1 4 2 3
            """);
        script.run("A ROUTE is as short as can be; of those as short the first one by its second THING, then by its third", """
            new 8
            relation 3 -1 -1 = 0
            set 0 7 {5 6} = 0
            set 0 5 {3 4} = 0
            set 0 6 {1 2} = 0
            set 0 {1 2 3 4} 0 = 0
            walk 0 7 0 = 7 5 3 0
            drop 0 5 3 = true
            walk 0 7 0 = 7 5 4 0
            drop 0 4 0 = true
            walk 0 7 0 = 7 6 1 0
            set 0 2 2 = 0
            drop 0 1 0 = true
            walk 0 7 0 = 7 6 2 0
            set 0 6 0 = 0
            walk 0 7 0 = 7 6 0
            set 0 7 7 = 0
            set 0 7 0 = 0
            walk 0 7 0 = 7 0
            """);
    }

    private static String chainOfForty() {
        StringBuilder lines = new StringBuilder("new 40\nrelation 3 -1 -1 = 0\n");
        for (int a = 0; a < 39; a++) {
            lines.append("set 0 " + a + " " + (a + 1) + " = 0\n");
        }
        return lines.toString();
    }

    private static void longestRoute() {
        script.run("A ROUTE of forty THINGS", chainOfForty(), """
            length 0 0 39 = 39
            route 0 0 39 0 = 0
            route 0 0 39 1 = 1
            route 0 0 39 31 = 31
            route 0 0 39 32 = 32
            route 0 0 39 38 = 38
            route 0 0 39 39 = 39
            route 0 0 39 {-1 40 41 least most} = NoSuchElement
            length 0 39 0 = -1
            length 0 1 0 = -1
            route 0 39 0 {-1 0 1 39 least most} = NoSuchElement
            set 0 39 0 = 0
            length 0 1 0 = 39
            route 0 1 0 39 = 0
            route 0 1 0 38 = 39
            length 0 0 0 = 0
            """);
    }

    private static void firstExceptionOfSeveral() {
        String stage = """
            new 4
            kind 3 1 = 0
            relation 0 0 0 = 0
            relation 4 0 0 = 1
            relation 6 0 0 = 2
            condition 5 0 -1 = 3
            set 0 0 1 = 0
            set 0 0 2 = 1
            set 1 0 1 = 0
            set 2 0 1 = 0
            """;
        script.run("Of several the first one in this order: kind", stage, """
            kind {-1 4} {0 1 -1 4} = IllegalArgument
            kind {0 3} {-1 4} = IllegalArgument
            kind {0 3} {0 1 3} = IllegalState
            """);
        script.run("Of several the first one in this order: set, drop, empty", stage, """
            set 3 {-1 4} {0 3} = IllegalArgument
            set 3 {0 3} {-1 4} = IllegalArgument
            set 3 {0 1 2 3} {0 1 2 3} = IllegalState
            set 1 3 3 = IllegalArgument
            set {0 1 2} 3 0 = IllegalArgument
            set {0 1 2} 0 3 = IllegalArgument
            set 4 3 3 = IllegalArgument
            drop 3 {-1 4} {0 3} = IllegalArgument
            drop 3 {0 3} {-1 4} = IllegalArgument
            drop 3 {0 1 2 3} {0 1 2 3} = IllegalState
            drop 1 3 3 = IllegalArgument
            drop {0 1 2} 3 0 = IllegalArgument
            drop {0 1 2} 0 3 = IllegalArgument
            drop 2 3 3 = IllegalArgument
            empty 3 = IllegalState
            empty {-1 4} = IllegalArgument
            """);
        script.run("Of several the first one in this order: pushed, next, back, route", stage, """
            pushed {-1 1 least most} {-1 2} = IllegalArgument
            pushed {-1 1 least most} {0 1} = NoSuchElement
            next {0 3} {-1 4} {-1 40} = IllegalArgument
            next {-1 4} {-1 0} {-1 40} = IllegalArgument
            next {0 3} 0 {-1 1 40} = NoSuchElement
            back {0 3} {-1 4} {-1 40} = IllegalArgument
            back {-1 4} {-1 0} {-1 40} = IllegalArgument
            back {0 3} 2 {-1 1 40} = NoSuchElement
            route {0 3} {-1 4} {0 4} {-1 40} = IllegalArgument
            route {0 3} 0 {-1 4} {-1 40} = IllegalArgument
            route {-1 4} {0 4} 0 {-1 40} = IllegalArgument
            route {0 3} 0 2 {-1 2} = NoSuchElement
            """);
        script.run("Of several the first one in this order: leader", stage, """
            leader {0 1 2 3} {-1 4} = IllegalArgument
            leader {-1 4} {-1 0 3} = IllegalArgument
            leader {0 1 2} 3 = IllegalArgument
            leader {0 1} {0 1 2} = IllegalState
            leader 3 {0 1 2 3} = IllegalState
            """);
        script.run("Of several the first one in this order: leader, where the two KINDS are unlike", """
            new 4
            kind 2 1 = 0
            kind 3 2 = 0
            relation 3 0 1 = 0
            relation 0 1 -1 = 1
            relation 2 -1 1 = 2
            condition 0 1 -1 = 3
            condition 3 1 2 = 4
            leader 0 {2 3} = IllegalArgument
            leader 0 {0 1} = IllegalState
            leader 1 {0 1 3} = IllegalArgument
            leader 1 2 = IllegalState
            leader {2 3 4} {0 1 2 3} = IllegalState
            """);
        StringBuilder twelve = new StringBuilder("new 4\n");
        for (int k = 0; k < 12; k++) {
            twelve.append("relation 6 -1 -1 = " + k + "\n");
        }
        script.run("Of several the first one in this order: relation, condition", twelve.toString(), """
            relation {-1 7} 0 0 = IllegalArgument
            relation {0 6} {-2 4} 0 = IllegalArgument
            relation {0 6} 0 {-2 4} = IllegalArgument
            relation {4 5 6} 0 {-1 1} = IllegalArgument
            relation {0 1 2 3 4 5 6} 0 0 = IllegalState
            relation {0 1 2 3} 0 1 = IllegalState
            condition {-1 6} 0 -1 = IllegalArgument
            condition {0 1 5} {-1 12} -1 = IllegalArgument
            condition {0 1 5} 0 {0 12} = IllegalArgument
            condition {2 3 4} {-1 12} 0 = IllegalArgument
            condition {2 3 4} 0 {-1 12} = IllegalArgument
            condition {0 1 5} {0 11} -1 = IllegalState
            condition {2 3 4} {0 11} {0 11} = IllegalState
            """);
    }
}
