/** One part a promise: ordinary inputs, the edges that the document names, wrong inputs. */
public final class PromisesTest {
    private static final int NONE = RelationRows.NONE;
    private static final int LEAST = Integer.MIN_VALUE;
    private static final int MOST = Integer.MAX_VALUE;

    private static final int ONE_TO_ONE = 0;
    private static final int ONE_TO_MANY = 1;
    private static final int MANY_TO_ONE = 2;
    private static final int MANY_TO_MANY = 3;
    private static final int TWINS = 4;
    private static final int MUTUAL = 5;
    private static final int CLASSES = 6;

    private static final int TURNED = 0;
    private static final int NOT = 1;
    private static final int BOTH = 2;
    private static final int EITHER = 3;
    private static final int THROUGH = 4;
    private static final int FAR = 5;

    private static final Due due = new Due();

    public static void main(String[] args) {
        newObject();
        clear();
        kind();
        relation();
        condition();
        conditionsOnConditions();
        setOneToOne();
        setOneToManyAndBack();
        setTwins();
        setWithoutPushing();
        setWrong();
        drop();
        dropFromClass();
        empty();
        pushed();
        has();
        nextAndBack();
        count();
        length();
        route();
        leader();
        differ();
        tally();
        of();
        told();
        full();
        due.end();
    }

    private static RelationRows made(int things, int form) {
        RelationRows x = new RelationRows(things);
        x.relation(form, NONE, NONE);
        return x;
    }

    private static void newObject() {
        due.part("1 a new object");
        int[][] asked = {{1, 1}, {2, 2}, {39, 39}, {40, 40}, {41, 40}, {0, 1}, {-1, 1}, {MOST, 40}, {LEAST, 1}};
        for (int[] row : asked) {
            RelationRows x = new RelationRows(row[0]);
            due.is(row[1], () -> x.of(0));
            due.is(0, () -> x.of(1));
            due.is(0, () -> x.of(2));
            due.is(0, () -> x.tally(row[1] - 1, row[1] - 1));
            due.noSuchElement(() -> x.pushed(0, 0));
            due.illegalArgument(() -> x.count(0));
            due.is(0, () -> x.kind(row[1] - 1, 3));
            due.illegalArgument(() -> x.kind(row[1], 3));
        }
    }

    private static void clear() {
        due.part("2 clear");
        RelationRows x = new RelationRows(5);
        due.is(0, x::clear);
        x.kind(0, 1);
        x.kind(1, 2);
        due.is(0, x::clear);
        due.is(0, () -> x.kind(0, 0));
        due.is(0, () -> x.kind(1, 3));
        x.relation(ONE_TO_ONE, NONE, NONE);
        x.condition(FAR, 0, NONE);
        x.set(0, 0, 1);
        x.set(0, 0, 2);
        x.set(0, 0, 0);
        x.condition(TURNED, 1, NONE);
        due.is(3, x::clear);
        due.is(5, () -> x.of(0));
        due.is(0, () -> x.of(1));
        due.is(0, () -> x.of(2));
        due.noSuchElement(() -> x.pushed(0, 0));
        due.is(0, () -> x.tally(0, 0));
        due.is(0, () -> x.tally(0, 1));
        due.is(0, () -> x.kind(1, 0));
        due.illegalArgument(() -> x.has(0, 0, 2));
        due.is(0, () -> x.relation(ONE_TO_ONE, NONE, NONE));
        due.is(0, () -> x.count(0));
        due.is(1, () -> x.condition(NOT, 0, NONE));
        due.is(25, () -> x.count(1));
    }

    private static void kind() {
        due.part("3 kind");
        RelationRows x = new RelationRows(3);
        due.is(0, () -> x.kind(0, 3));
        due.is(3, () -> x.kind(0, 1));
        due.is(1, () -> x.kind(0, 1));
        due.is(0, () -> x.kind(2, 0));
        due.illegalArgument(() -> x.kind(3, 0));
        due.illegalArgument(() -> x.kind(-1, 0));
        due.illegalArgument(() -> x.kind(LEAST, 0));
        due.illegalArgument(() -> x.kind(0, 4));
        due.illegalArgument(() -> x.kind(0, NONE));
        due.is(1, () -> x.kind(0, 2));
        x.relation(MANY_TO_MANY, 2, NONE);
        due.illegalState(() -> x.kind(0, 1));
        due.illegalArgument(() -> x.kind(3, 1));
        due.illegalArgument(() -> x.kind(0, 4));
        due.is(0, () -> x.set(0, 0, 1));
    }

    private static void relation() {
        due.part("4 relation");
        RelationRows x = new RelationRows(4);
        for (int form = 0; form <= 6; form++) {
            int f = form;
            due.is(f, () -> x.relation(f, 3, 3));
        }
        for (int form = 4; form <= 6; form++) {
            int f = form;
            due.illegalArgument(() -> x.relation(f, 0, 1));
            due.illegalArgument(() -> x.relation(f, NONE, 0));
            due.illegalArgument(() -> x.relation(f, 0, NONE));
        }
        due.illegalArgument(() -> x.relation(-1, 0, 0));
        due.illegalArgument(() -> x.relation(7, 0, 0));
        due.illegalArgument(() -> x.relation(10, 0, 0));
        due.illegalArgument(() -> x.relation(0, 4, 0));
        due.illegalArgument(() -> x.relation(0, 0, 4));
        due.illegalArgument(() -> x.relation(0, -2, 0));
        due.illegalArgument(() -> x.relation(0, 0, -2));
        due.is(7, () -> x.of(1));
        for (int k = 7; k < 12; k++) {
            due.is(k, () -> x.relation(ONE_TO_MANY, NONE, 2));
        }
        due.illegalState(() -> x.relation(ONE_TO_MANY, NONE, 2));
        due.illegalArgument(() -> x.relation(7, 0, 0));
        due.illegalArgument(() -> x.relation(TWINS, 0, 1));
        due.illegalArgument(() -> x.relation(ONE_TO_ONE, 4, 1));
        due.is(12, () -> x.of(1));
    }

    private static void condition() {
        due.part("5 condition");
        RelationRows x = made(4, MANY_TO_MANY);
        x.relation(MANY_TO_MANY, NONE, NONE);
        x.set(0, 0, 1);
        x.set(0, 1, 2);
        x.set(0, 2, 3);
        x.set(1, 1, 2);
        x.set(1, 1, 3);
        x.set(1, 3, 3);
        due.is(2, () -> x.condition(TURNED, 0, NONE));
        due.is(3, () -> x.condition(NOT, 0, NONE));
        due.is(4, () -> x.condition(BOTH, 0, 1));
        due.is(5, () -> x.condition(EITHER, 0, 1));
        due.is(6, () -> x.condition(THROUGH, 0, 1));
        due.is(7, () -> x.condition(FAR, 0, NONE));
        pairs(x, 2, "10 21 32");
        pairs(x, 3, "00 02 03 10 11 13 20 21 22 30 31 32 33");
        pairs(x, 4, "12");
        pairs(x, 5, "01 12 13 23 33");
        pairs(x, 6, "02 03 23");
        pairs(x, 7, "01 02 03 12 13 23");
        x.set(0, 3, 0);
        x.drop(1, 3, 3);
        pairs(x, 2, "03 10 21 32");
        pairs(x, 4, "12");
        pairs(x, 6, "02 03");
        pairs(x, 7, "00 01 02 03 10 11 12 13 20 21 22 23 30 31 32 33");
        x.empty(0);
        pairs(x, 2, "");
        pairs(x, 5, "12 13");
        pairs(x, 7, "");
        due.illegalArgument(() -> x.condition(-1, 0, NONE));
        due.illegalArgument(() -> x.condition(6, 0, NONE));
        due.illegalArgument(() -> x.condition(10, 0, NONE));
        due.illegalArgument(() -> x.condition(TURNED, 8, NONE));
        due.illegalArgument(() -> x.condition(TURNED, NONE, NONE));
        due.illegalArgument(() -> x.condition(BOTH, 0, 8));
        due.illegalArgument(() -> x.condition(EITHER, 0, NONE));
        due.illegalArgument(() -> x.condition(THROUGH, 8, 0));
        due.illegalArgument(() -> x.condition(THROUGH, 0, -2));
        due.illegalArgument(() -> x.condition(TURNED, 0, 0));
        due.illegalArgument(() -> x.condition(NOT, 0, 99));
        due.illegalArgument(() -> x.condition(FAR, 0, -2));
        due.is(8, () -> x.of(1));
        for (int k = 8; k < 12; k++) {
            due.is(k, () -> x.condition(BOTH, 7, 7));
        }
        due.illegalState(() -> x.condition(BOTH, 0, 0));
        due.illegalArgument(() -> x.condition(BOTH, 0, 12));
        due.illegalArgument(() -> x.condition(6, 0, 0));
    }

    private static void conditionsOnConditions() {
        due.part("5 conditions on conditions");
        RelationRows x = made(3, MANY_TO_MANY);
        for (int k = 1; k < 12; k++) {
            x.condition(NOT, k - 1, NONE);
        }
        due.is(9, () -> x.count(11));
        due.is(0, () -> x.count(10));
        x.set(0, 1, 2);
        due.is(8, () -> x.count(11));
        due.is(1, () -> x.count(10));
        due.is(false, () -> x.has(11, 1, 2));
        due.is(true, () -> x.has(10, 1, 2));
        x.drop(0, 1, 2);
        due.is(true, () -> x.has(11, 1, 2));
        due.is(0, () -> x.set(0, 0, 0));
        due.is(8, () -> x.count(5));
        due.is(1, () -> x.empty(0));
        due.is(9, () -> x.count(11));
    }

    private static void setOneToOne() {
        due.part("6 set, one to one");
        RelationRows x = made(5, ONE_TO_ONE);
        due.is(0, () -> x.set(0, 0, 1));
        due.is(0, () -> x.set(0, 2, 2));
        due.is(2, () -> x.set(0, 0, 2));
        pushedPairs(x, "01 22");
        pairs(x, 0, "02");
        due.is(0, () -> x.set(0, 0, 2));
        pushedPairs(x, "");
        due.is(1, () -> x.set(0, 0, 0));
        pushedPairs(x, "02");
        due.is(1, () -> x.set(0, 4, 0));
        pushedPairs(x, "00");
        due.is(0, () -> x.set(0, 0, 4));
        pairs(x, 0, "04 40");
        due.is(2, () -> x.set(0, 4, 4));
        pushedPairs(x, "40 04");
        pairs(x, 0, "44");
    }

    private static void setOneToManyAndBack() {
        due.part("6 set, one to many and many to one");
        RelationRows x = made(5, ONE_TO_MANY);
        x.relation(MANY_TO_ONE, NONE, NONE);
        due.is(0, () -> x.set(0, 0, 3));
        due.is(0, () -> x.set(0, 0, 4));
        due.is(1, () -> x.set(0, 1, 4));
        pushedPairs(x, "04");
        pairs(x, 0, "03 14");
        due.is(0, () -> x.set(1, 3, 0));
        due.is(0, () -> x.set(1, 4, 0));
        due.is(1, () -> x.set(1, 4, 1));
        pushedPairs(x, "40");
        pairs(x, 1, "30 41");
        pairs(x, 0, "03 14");
        due.is(0, () -> x.set(1, 4, 1));
        pushedPairs(x, "");
        due.is(0, () -> x.set(0, 3, 0));
        pairs(x, 0, "03 14 30");
        due.is(0, () -> x.set(1, 0, 4));
        pairs(x, 1, "04 30 41");
    }

    private static void setTwins() {
        due.part("6 set, twins");
        RelationRows x = made(6, TWINS);
        due.is(0, () -> x.set(0, 0, 1));
        pairs(x, 0, "01 10");
        due.is(0, () -> x.set(0, 1, 0));
        due.is(0, () -> x.set(0, 2, 3));
        due.is(2, () -> x.set(0, 3, 0));
        pushedPairs(x, "32 01");
        pairs(x, 0, "03 30");
        due.is(1, () -> x.set(0, 5, 3));
        pushedPairs(x, "30");
        due.is(1, () -> x.set(0, 5, 0));
        pushedPairs(x, "53");
        pairs(x, 0, "05 50");
    }

    private static void setWithoutPushing() {
        due.part("6 set, forms that push nothing out");
        RelationRows x = made(5, MANY_TO_MANY);
        x.relation(MUTUAL, NONE, NONE);
        x.relation(CLASSES, NONE, NONE);
        for (int r = 0; r < 3; r++) {
            int relation = r;
            due.is(0, () -> x.set(relation, 0, 1));
            due.is(0, () -> x.set(relation, 0, 2));
            due.is(0, () -> x.set(relation, 4, 1));
            due.is(0, () -> x.set(relation, 3, 3));
            due.is(0, () -> x.of(2));
        }
        pairs(x, 0, "01 02 33 41");
        pairs(x, 1, "01 02 10 14 20 33 41");
        pairs(x, 2, "00 01 02 04 10 11 12 14 20 21 22 24 33 40 41 42 44");
    }

    private static void setWrong() {
        due.part("6 set, wrong inputs");
        RelationRows x = new RelationRows(4);
        x.kind(1, 1);
        x.kind(2, 2);
        x.relation(ONE_TO_ONE, 0, 1);
        x.relation(TWINS, NONE, NONE);
        x.condition(TURNED, 0, NONE);
        x.relation(CLASSES, 0, 0);
        x.relation(MANY_TO_MANY, NONE, 2);
        x.set(0, 0, 1);
        due.is(1, () -> x.set(0, 3, 1));
        due.illegalArgument(() -> x.set(0, 1, 0));
        due.illegalArgument(() -> x.set(0, 0, 0));
        due.illegalArgument(() -> x.set(0, 0, 2));
        due.illegalArgument(() -> x.set(0, 4, 1));
        due.illegalArgument(() -> x.set(0, 0, -1));
        due.illegalArgument(() -> x.set(5, 0, 1));
        due.illegalArgument(() -> x.set(-1, 0, 1));
        due.illegalArgument(() -> x.set(1, 2, 2));
        due.illegalArgument(() -> x.set(2, 0, 4));
        due.illegalArgument(() -> x.set(2, -1, 0));
        due.illegalState(() -> x.set(2, 0, 1));
        due.illegalState(() -> x.set(2, 1, 1));
        due.illegalArgument(() -> x.set(3, 1, 1));
        due.illegalArgument(() -> x.set(3, 0, 1));
        due.illegalArgument(() -> x.set(4, 0, 3));
        pushedPairs(x, "01");
        due.is(0, () -> x.tally(0, 0));
        due.is(0, () -> x.tally(1, 1));
        due.is(1, () -> x.tally(0, 1));
        pairs(x, 0, "31");
        due.is(0, () -> x.set(4, 2, 2));
        due.is(0, () -> x.set(3, 0, 3));
    }

    private static void drop() {
        due.part("7 drop");
        RelationRows x = new RelationRows(4);
        x.kind(3, 1);
        x.relation(MANY_TO_MANY, NONE, NONE);
        x.relation(TWINS, 0, 0);
        x.relation(MUTUAL, NONE, NONE);
        x.condition(EITHER, 0, 1);
        x.set(0, 0, 1);
        x.set(0, 1, 0);
        x.set(1, 0, 1);
        x.set(2, 0, 1);
        x.set(2, 2, 2);
        due.is(true, () -> x.drop(0, 0, 1));
        due.is(false, () -> x.drop(0, 0, 1));
        pairs(x, 0, "10");
        due.is(true, () -> x.drop(1, 1, 0));
        due.is(false, () -> x.drop(1, 0, 1));
        pairs(x, 1, "");
        due.is(true, () -> x.drop(2, 1, 0));
        pairs(x, 2, "22");
        due.is(true, () -> x.drop(2, 2, 2));
        due.is(false, () -> x.drop(2, 2, 2));
        due.illegalArgument(() -> x.drop(1, 0, 3));
        due.illegalArgument(() -> x.drop(1, 3, 0));
        due.illegalArgument(() -> x.drop(1, 0, 0));
        due.illegalArgument(() -> x.drop(0, 0, 4));
        due.illegalArgument(() -> x.drop(0, -1, 0));
        due.illegalArgument(() -> x.drop(4, 0, 0));
        due.illegalArgument(() -> x.drop(-1, 0, 0));
        due.illegalArgument(() -> x.drop(3, 0, 4));
        due.illegalState(() -> x.drop(3, 1, 0));
        due.illegalState(() -> x.drop(3, 0, 0));
        pairs(x, 0, "10");
    }

    private static void dropFromClass() {
        due.part("7 drop, classes");
        RelationRows x = new RelationRows(5);
        x.kind(4, 1);
        x.relation(CLASSES, 0, 0);
        x.set(0, 0, 1);
        x.set(0, 2, 1);
        due.is(false, () -> x.drop(0, 0, 3));
        due.is(false, () -> x.drop(0, 0, 0));
        due.is(true, () -> x.drop(0, 0, 2));
        pairs(x, 0, "00 11 12 21 22 33");
        due.is(false, () -> x.drop(0, 0, 2));
        due.is(true, () -> x.drop(0, 2, 1));
        pairs(x, 0, "00 11 22 33");
        x.set(0, 0, 1);
        due.is(true, () -> x.drop(0, 1, 0));
        pairs(x, 0, "00 11 22 33");
        due.illegalArgument(() -> x.drop(0, 4, 4));
        due.illegalArgument(() -> x.drop(0, 0, 4));
    }

    private static void empty() {
        due.part("8 empty");
        RelationRows x = new RelationRows(6);
        x.kind(5, 2);
        x.relation(CLASSES, 0, 0);
        x.relation(TWINS, NONE, NONE);
        x.relation(MUTUAL, NONE, NONE);
        x.relation(ONE_TO_MANY, NONE, NONE);
        x.condition(NOT, 3, NONE);
        x.set(0, 0, 1);
        x.set(0, 1, 2);
        x.set(1, 0, 5);
        x.set(2, 0, 5);
        x.set(2, 1, 1);
        x.set(3, 1, 2);
        x.set(3, 3, 2);
        due.is(6, () -> x.empty(0));
        due.is(0, () -> x.empty(0));
        pairs(x, 0, "00 11 22 33 44");
        due.is(2, () -> x.empty(1));
        due.is(3, () -> x.empty(2));
        due.is(35, () -> x.count(4));
        due.is(1, () -> x.empty(3));
        due.is(36, () -> x.count(4));
        pairs(x, 1, "");
        pairs(x, 2, "");
        due.illegalState(() -> x.empty(4));
        due.illegalArgument(() -> x.empty(5));
        due.illegalArgument(() -> x.empty(-1));
        pushedPairs(x, "12");
    }

    private static void pushed() {
        due.part("9 pushed");
        RelationRows x = made(4, TWINS);
        x.set(0, 0, 1);
        x.set(0, 2, 3);
        x.set(0, 1, 2);
        due.is(1, () -> x.pushed(0, 0));
        due.is(0, () -> x.pushed(0, 1));
        due.is(2, () -> x.pushed(1, 0));
        due.is(3, () -> x.pushed(1, 1));
        due.noSuchElement(() -> x.pushed(2, 0));
        due.noSuchElement(() -> x.pushed(-1, 0));
        due.noSuchElement(() -> x.pushed(MOST, 1));
        due.noSuchElement(() -> x.pushed(LEAST, 1));
        due.illegalArgument(() -> x.pushed(0, 2));
        due.illegalArgument(() -> x.pushed(0, -1));
        due.illegalArgument(() -> x.pushed(2, 2));
        x.drop(0, 1, 2);
        x.empty(0);
        x.relation(MUTUAL, NONE, NONE);
        due.illegalArgument(() -> x.set(0, 0, 0));
        pushedPairs(x, "10 23");
        x.set(1, 0, 0);
        pushedPairs(x, "");
        due.noSuchElement(() -> x.pushed(0, 0));
    }

    private static void has() {
        due.part("10 has");
        RelationRows x = new RelationRows(3);
        x.kind(2, 3);
        x.relation(MANY_TO_MANY, 0, 3);
        x.relation(TWINS, NONE, NONE);
        x.relation(CLASSES, 3, 3);
        x.set(0, 0, 2);
        due.is(true, () -> x.has(0, 0, 2));
        due.is(false, () -> x.has(0, 2, 0));
        due.is(false, () -> x.has(0, 1, 2));
        due.is(false, () -> x.has(0, 0, 0));
        due.is(false, () -> x.has(1, 1, 1));
        due.is(true, () -> x.has(2, 2, 2));
        due.is(false, () -> x.has(2, 1, 1));
        due.illegalArgument(() -> x.has(3, 0, 0));
        due.illegalArgument(() -> x.has(-1, 0, 0));
        due.illegalArgument(() -> x.has(0, 3, 0));
        due.illegalArgument(() -> x.has(0, 0, 3));
        due.illegalArgument(() -> x.has(0, -1, 0));
        due.illegalArgument(() -> x.has(0, 0, LEAST));
    }

    private static void nextAndBack() {
        due.part("11 next, 12 back");
        RelationRows x = made(40, MANY_TO_MANY);
        x.condition(TURNED, 0, NONE);
        x.set(0, 7, 39);
        x.set(0, 7, 0);
        x.set(0, 7, 31);
        x.set(0, 7, 32);
        x.set(0, 38, 32);
        int[] nexts = {0, 31, 32, 39};
        for (int k = 0; k < nexts.length; k++) {
            int i = k;
            due.is(nexts[i], () -> x.next(0, 7, i));
            due.is(nexts[i], () -> x.back(1, 7, i));
        }
        due.noSuchElement(() -> x.next(0, 7, 4));
        due.noSuchElement(() -> x.next(0, 7, -1));
        due.noSuchElement(() -> x.next(0, 7, LEAST));
        due.noSuchElement(() -> x.next(0, 7, MOST));
        due.noSuchElement(() -> x.next(0, 0, 0));
        due.is(7, () -> x.back(0, 32, 0));
        due.is(38, () -> x.back(0, 32, 1));
        due.is(38, () -> x.next(1, 32, 1));
        due.noSuchElement(() -> x.back(0, 32, 2));
        due.noSuchElement(() -> x.back(0, 32, -1));
        due.noSuchElement(() -> x.back(0, 7, 0));
        due.illegalArgument(() -> x.next(0, 40, -1));
        due.illegalArgument(() -> x.next(0, -1, 0));
        due.illegalArgument(() -> x.next(2, 0, 0));
        due.illegalArgument(() -> x.next(-1, 0, 0));
        due.illegalArgument(() -> x.back(0, 40, -1));
        due.illegalArgument(() -> x.back(0, -1, 0));
        due.illegalArgument(() -> x.back(2, 0, 0));
        due.illegalArgument(() -> x.back(-1, 0, 0));
    }

    private static void count() {
        due.part("13 count");
        RelationRows x = new RelationRows(40);
        x.kind(0, 1);
        x.relation(MUTUAL, NONE, NONE);
        x.relation(CLASSES, NONE, NONE);
        x.relation(CLASSES, 1, 1);
        x.relation(CLASSES, 2, 2);
        x.condition(NOT, 0, NONE);
        due.is(0, () -> x.count(0));
        due.is(40, () -> x.count(1));
        due.is(1, () -> x.count(2));
        due.is(0, () -> x.count(3));
        due.is(1600, () -> x.count(4));
        x.set(0, 39, 0);
        x.set(0, 39, 39);
        x.set(1, 0, 39);
        due.is(3, () -> x.count(0));
        due.is(42, () -> x.count(1));
        due.is(1597, () -> x.count(4));
        due.illegalArgument(() -> x.count(5));
        due.illegalArgument(() -> x.count(-1));
        due.illegalArgument(() -> x.count(12));
    }

    private static void length() {
        due.part("14 length");
        RelationRows x = made(40, MANY_TO_ONE);
        x.relation(TWINS, 2, 2);
        x.relation(MANY_TO_MANY, NONE, NONE);
        for (int a = 0; a < 39; a++) {
            x.set(0, a, a + 1);
        }
        due.is(39, () -> x.length(0, 0, 39));
        due.is(1, () -> x.length(0, 38, 39));
        due.is(0, () -> x.length(0, 5, 5));
        due.is(NONE, () -> x.length(0, 39, 0));
        due.is(0, () -> x.length(1, 3, 3));
        due.is(NONE, () -> x.length(1, 3, 4));
        x.set(2, 0, 0);
        x.set(2, 0, 9);
        due.is(0, () -> x.length(2, 0, 0));
        due.is(1, () -> x.length(2, 0, 9));
        due.is(NONE, () -> x.length(2, 5, 9));
        x.set(2, 5, 0);
        due.is(2, () -> x.length(2, 5, 9));
        due.is(NONE, () -> x.length(2, 5, 20));
        x.drop(0, 20, 21);
        due.is(NONE, () -> x.length(0, 0, 39));
        due.is(20, () -> x.length(0, 0, 20));
        due.illegalArgument(() -> x.length(3, 0, 0));
        due.illegalArgument(() -> x.length(-1, 0, 0));
        due.illegalArgument(() -> x.length(0, 40, 0));
        due.illegalArgument(() -> x.length(0, 0, 40));
        due.illegalArgument(() -> x.length(0, -1, -1));
    }

    private static void route() {
        due.part("15 route");
        RelationRows x = made(8, MANY_TO_MANY);
        x.condition(TURNED, 0, NONE);
        int[][] pairs = {{0, 5}, {0, 3}, {5, 1}, {3, 6}, {3, 4}, {1, 7}, {6, 7}, {4, 7}, {0, 1}, {0, 2}};
        for (int[] pair : pairs) {
            x.set(0, pair[0], pair[1]);
        }
        walk(x, 0, 0, 7, "0 1 7");
        x.drop(0, 0, 1);
        walk(x, 0, 0, 7, "0 3 4 7");
        walk(x, 1, 7, 0, "7 1 5 0");
        x.drop(0, 3, 4);
        walk(x, 0, 0, 7, "0 3 6 7");
        x.drop(0, 3, 6);
        walk(x, 0, 0, 7, "0 5 1 7");
        walk(x, 0, 2, 2, "2");
        walk(x, 0, 7, 0, "");
        due.noSuchElement(() -> x.route(0, 0, 7, -1));
        due.noSuchElement(() -> x.route(0, 0, 7, LEAST));
        due.noSuchElement(() -> x.route(0, 0, 7, MOST));
        due.noSuchElement(() -> x.route(0, 7, 0, NONE));
        due.illegalArgument(() -> x.route(0, 8, 0, -1));
        due.illegalArgument(() -> x.route(0, 0, 8, 0));
        due.illegalArgument(() -> x.route(0, -1, 0, 0));
        due.illegalArgument(() -> x.route(2, 0, 0, 0));
        due.illegalArgument(() -> x.route(-1, 0, 0, 0));
    }

    private static void leader() {
        due.part("16 leader");
        RelationRows x = new RelationRows(6);
        x.kind(0, 1);
        x.relation(CLASSES, 0, 0);
        x.relation(MUTUAL, 0, 0);
        x.relation(CLASSES, NONE, NONE);
        x.condition(FAR, 1, NONE);
        due.is(5, () -> x.leader(0, 5));
        x.set(0, 5, 2);
        x.set(0, 4, 5);
        due.is(2, () -> x.leader(0, 5));
        due.is(2, () -> x.leader(0, 4));
        due.is(2, () -> x.leader(0, 2));
        due.is(1, () -> x.leader(0, 1));
        due.is(0, () -> x.leader(2, 0));
        x.drop(0, 2, 4);
        due.is(4, () -> x.leader(0, 5));
        due.illegalArgument(() -> x.leader(0, 0));
        due.illegalArgument(() -> x.leader(0, 6));
        due.illegalArgument(() -> x.leader(0, -1));
        due.illegalArgument(() -> x.leader(4, 1));
        due.illegalArgument(() -> x.leader(-1, 1));
        due.illegalState(() -> x.leader(1, 1));
        due.illegalArgument(() -> x.leader(1, 0));
        due.illegalArgument(() -> x.leader(1, 6));
        due.illegalState(() -> x.leader(3, 0));
        due.illegalState(() -> x.leader(3, 1));
        due.illegalArgument(() -> x.leader(3, 6));
    }

    private static void differ() {
        due.part("17 differ");
        RelationRows x = made(40, MANY_TO_MANY);
        x.relation(MUTUAL, NONE, NONE);
        x.condition(TURNED, 0, NONE);
        due.is(NONE, () -> x.differ(0, 1));
        x.set(0, 39, 39);
        due.is(39 * 40 + 39, () -> x.differ(0, 1));
        due.is(39 * 40 + 39, () -> x.differ(1, 0));
        due.is(NONE, () -> x.differ(0, 2));
        due.is(NONE, () -> x.differ(0, 0));
        x.set(0, 3, 20);
        due.is(3 * 40 + 20, () -> x.differ(0, 2));
        x.set(1, 3, 20);
        x.set(1, 3, 21);
        due.is(3 * 40 + 21, () -> x.differ(0, 1));
        due.is(3 * 40 + 21, () -> x.differ(1, 0));
        due.is(3 * 40 + 20, () -> x.differ(2, 1));
        RelationRows small = made(2, CLASSES);
        small.relation(MANY_TO_MANY, NONE, NONE);
        small.set(1, 0, 0);
        due.is(41, () -> small.differ(0, 1));
        small.drop(1, 0, 0);
        due.is(0, () -> small.differ(0, 1));
        due.illegalArgument(() -> x.differ(0, 3));
        due.illegalArgument(() -> x.differ(3, 0));
        due.illegalArgument(() -> x.differ(-1, 0));
        due.illegalArgument(() -> x.differ(0, -1));
    }

    private static void tally() {
        due.part("18 tally");
        RelationRows x = made(4, TWINS);
        x.relation(CLASSES, NONE, NONE);
        x.set(0, 0, 1);
        x.set(0, 0, 1);
        x.set(1, 0, 1);
        x.set(1, 3, 3);
        due.is(3, () -> x.tally(0, 1));
        due.is(0, () -> x.tally(1, 0));
        due.is(1, () -> x.tally(3, 3));
        x.drop(0, 0, 1);
        x.empty(1);
        due.is(3, () -> x.tally(0, 1));
        due.illegalArgument(() -> x.set(0, 2, 2));
        due.is(0, () -> x.tally(2, 2));
        int[][] wrong = {{4, 0}, {0, 4}, {-1, 0}, {0, -1}, {MOST, MOST}, {LEAST, 0}};
        for (int[] pair : wrong) {
            due.is("throws.ArrayIndexOutOfBoundsException", () -> x.tally(pair[0], pair[1]));
            due.is(false, () -> isTheMachines(x, pair[0], pair[1]));
        }
        x.clear();
        due.is(0, () -> x.tally(0, 1));
    }

    /** The machine's own exception names the index; one that the class throws does not. */
    private static boolean isTheMachines(RelationRows x, int a, int b) {
        try {
            x.tally(a, b);
            return true;
        } catch (ArrayIndexOutOfBoundsException e) {
            return String.valueOf(e.getMessage()).startsWith("Index ");
        }
    }

    private static void of() {
        due.part("19 of");
        RelationRows x = made(4, ONE_TO_ONE);
        x.condition(NOT, 0, NONE);
        x.set(0, 0, 1);
        x.set(0, 2, 3);
        x.set(0, 0, 3);
        due.is(4, () -> x.of(0));
        due.is(2, () -> x.of(1));
        due.is(2, () -> x.of(2));
        x.set(0, 0, 3);
        due.is(0, () -> x.of(2));
        due.illegalArgument(() -> x.of(3));
        due.illegalArgument(() -> x.of(-1));
    }

    private static void told() {
        due.part("20 told");
        RelationRows x = new RelationRows(4);
        x.relation(MANY_TO_ONE, 3, NONE);
        x.relation(CLASSES, 2, 2);
        x.condition(TURNED, 1, NONE);
        x.condition(THROUGH, 2, 0);
        int[][] want = {{2, 3, NONE}, {6, 2, 2}, {10, 1, NONE}, {14, 2, 0}};
        for (int r = 0; r < want.length; r++) {
            for (int what = 0; what < 3; what++) {
                int relation = r;
                int w = what;
                due.is(want[r][what], () -> x.told(relation, w));
            }
            int relation = r;
            due.illegalArgument(() -> x.told(relation, 3));
            due.illegalArgument(() -> x.told(relation, -1));
        }
        due.illegalArgument(() -> x.told(4, 0));
        due.illegalArgument(() -> x.told(-1, 0));
    }

    private static void full() {
        due.part("forty things, every pair");
        RelationRows x = made(40, CLASSES);
        x.condition(THROUGH, 0, 0);
        x.condition(FAR, 1, NONE);
        for (int a = 39; a > 0; a--) {
            x.set(0, a, a - 1);
        }
        for (int r = 0; r < 3; r++) {
            int relation = r;
            due.is(1600, () -> x.count(relation));
            due.is(39, () -> x.next(relation, 39, 39));
            due.is(39, () -> x.back(relation, 0, 39));
        }
        due.is(0, () -> x.leader(0, 39));
        due.is(1560, () -> x.empty(0));
        due.is(40, () -> x.count(2));
    }

    private static void pairs(RelationRows x, int relation, String want) {
        StringBuilder got = new StringBuilder();
        // Asked once, as an object answers 512 calls only.
        int things = x.of(0);
        for (int a = 0; a < things; a++) {
            for (int b = 0; b < things; b++) {
                if (x.has(relation, a, b)) {
                    got.append(got.length() == 0 ? "" : " ").append(a).append(b);
                }
            }
        }
        due.same(want, got.toString(), "all has(" + relation + ", a, b)");
    }

    private static void pushedPairs(RelationRows x, String want) {
        StringBuilder got = new StringBuilder();
        int count = x.of(2);
        for (int i = 0; i < count; i++) {
            got.append(i == 0 ? "" : " ").append(x.pushed(i, 0)).append(x.pushed(i, 1));
        }
        due.same(want, got.toString(), "all pushed(i, which)");
    }

    private static void walk(RelationRows x, int relation, int a, int b, String want) {
        StringBuilder got = new StringBuilder();
        int steps = x.length(relation, a, b);
        for (int i = 0; i <= steps; i++) {
            got.append(i == 0 ? "" : " ").append(x.route(relation, a, b, i));
        }
        due.same(want, got.toString(), "route(" + relation + ", " + a + ", " + b + ", i)");
        due.noSuchElement(() -> x.route(relation, a, b, steps + 1));
    }
}
