/** Promises 16 to 25: sets of halls. */
public final class SetsTest {
    private static final int NONE = HallDesk.NONE, BAD = HallDesk.BAD;
    private static final int HIGH = Integer.MAX_VALUE, LOW = Integer.MIN_VALUE;
    private static final Due due = new Due();

    /** A desk with a hall for each row of ways. */
    private static HallDesk desk(int towns, int[][] ways) {
        HallDesk x = new HallDesk();
        for (int t = 0; t < towns; t++) {
            x.town();
        }
        for (int h = 0; h < ways.length; h++) {
            x.hall();
            x.sheet(h, 1, ways[h].length);
            for (int t = 0; t < ways[h].length; t++) {
                x.way(h, t, ways[h][t]);
            }
        }
        return x;
    }

    /** Three towns of 1, 2, 3 people; three halls at prices 10, 20, 30. */
    private static HallDesk three() {
        HallDesk x = desk(3, new int[][] {{0, 5, 9}, {4, 1, 9}, {8, 6, 2}});
        x.people(1, 2);
        x.people(2, 3);
        x.price(0, 10);
        x.price(1, 20);
        x.price(2, 30);
        return x;
    }

    private static void open() {
        due.promise(16);
        HallDesk x = three();
        due.is("open(0)", x.open(0), 0);
        due.is("open(7)", x.open(7), 3);
        due.is("open(5)", x.open(5), 2);
        due.is("open(8)", x.open(8), BAD);
        due.is("open(9)", x.open(9), BAD);
        due.is("open(-1)", x.open(-1), BAD);
        due.is("open(LOW)", x.open(LOW), BAD);
        due.is("open(HIGH)", x.open(HIGH), BAD);
        due.is("a refused one changes nothing", x.opened(), 5);
        due.is("it is no change that is kept", x.count(5), 8);
        HallDesk none = new HallDesk();
        due.is("open(0) without halls", none.open(0), 0);
        due.is("open(1) without halls", none.open(1), BAD);
    }

    private static void opened() {
        due.promise(17);
        HallDesk x = three();
        due.is("opened() at first", x.opened(), 0);
        x.open(6);
        due.is("opened()", x.opened(), 6);
        x.hall();
        due.is("a new hall is not in it", x.opened(), 6);
        x.best(0, 1, 0);
        due.is("best brings one", x.opened(), 4);
        x.best(0, 7, 0);
        due.is("and where there is none leaves it", x.opened(), 4);
    }

    private static void cost() {
        due.promise(18);
        HallDesk x = three();
        x.open(3);
        due.is("SUM", x.cost(0), 2 + 27);
        due.is("MOST", x.cost(1), 9);
        due.is("PRICED", x.cost(2), 29 + 30);
        due.is("ROOMED", x.cost(3), 59);
        due.is("FINED, no fines", x.cost(4), 30);
        x.fine(0, 5);
        x.fine(1, 1);
        x.fine(2, 28);
        due.is("FINED", x.cost(4), 30 + 0 + 1 + 27);
        due.is("CLOSED", x.cost(5), Math.max(10 + 27, 4 + 2 + 27));
        due.is("RIVAL", x.cost(6), 3);
        due.is("cost(7)", x.cost(7), BAD);
        due.is("cost(-1)", x.cost(-1), BAD);
        x.open(7);
        due.is("RIVAL, no other hall", x.cost(6), 0);
        x.open(4);
        due.is("RIVAL of one", x.cost(6), 3);
        due.is("CLOSED of one", x.cost(5), NONE);
        emptySet();
        roomedCost();
        rivalIsStrict();
    }

    private static void emptySet() {
        HallDesk x = three();
        for (int kind = 0; kind <= 6; kind++) {
            due.is("the empty set's cost(" + kind + ")", x.cost(kind), kind == 4 ? 0 : NONE);
        }
        x.fine(1, 6);
        x.fine(2, 8);
        due.is("all are left", x.cost(4), 14);
        HallDesk none = desk(0, new int[][] {{}, {}});
        for (int kind = 0; kind <= 6; kind++) {
            due.is("without towns, cost(" + kind + ")", none.cost(kind), kind <= 4 ? 0 : NONE);
        }
        none.price(0, 6);
        none.open(3);
        for (int kind = 0; kind <= 6; kind++) {
            due.is("without towns, two halls, cost(" + kind + ")", none.cost(kind), kind >= 2 && kind <= 4 ? 6 : 0);
        }
    }

    private static void roomedCost() {
        HallDesk x = three();
        x.open(3);
        x.room(0, 2);
        due.is("hall 0 takes town 0, town 2 goes to hall 1", x.cost(3), 0 + 2 + 27 + 30);
        x.room(1, 3);
        due.is("as town 2 fills hall 1, the others (3) do not fit hall 0 (2)", x.cost(3), NONE);
        x.room(0, 3);
        due.is("town 2 fills hall 0, the others hall 1", x.cost(3), 4 + 2 + 27 + 30);
        x.way(1, 2, 0);
        due.is("town 2 fills hall 1, the others hall 0", x.cost(3), 0 + 10 + 0 + 30);
        x.undo();
        x.open(1);
        due.is("one hall, too small", x.cost(3), NONE);
        x.room(0, 6);
        due.is("one hall, just enough", x.cost(3), 0 + 10 + 27 + 10);
        x.room(0, 5);
        due.is("one too few", x.cost(3), NONE);
        x.lose(0);
        x.room(0, 6);
        due.is("no ways: 1000000 each", x.cost(3), 6000010);
        due.is("no ways, MOST", x.cost(1), 1000000);
    }

    private static void rivalIsStrict() {
        HallDesk x = desk(2, new int[][] {{3, 3}, {3, 2}, {2, 9}});
        x.people(1, 4);
        x.open(1);
        due.is("only a lesser way is taken", x.cost(6), 4);
        due.is("by hall 1", x.worst(6), 1);
        x.lose(0);
        due.is("all go to a rival who has ways", x.cost(6), 5);
        x.lose(1);
        x.lose(2);
        due.is("none to one who has none", x.cost(6), 0);
    }

    private static void goes() {
        due.promise(19);
        HallDesk x = desk(3, new int[][] {{5, 5, 5}, {5, 4, 6}, {5, 4, 5}});
        x.open(6);
        for (int kind = 0; kind <= 3; kind++) {
            due.is("goes(" + kind + ", 0): the least hall", x.goes(kind, 0), 1);
            due.is("goes(" + kind + ", 1)", x.goes(kind, 1), 1);
            due.is("goes(" + kind + ", 2)", x.goes(kind, 2), 2);
        }
        due.is("left: fine 0", x.goes(4, 1), NONE);
        x.fine(1, 4);
        due.is("fine as much as the way", x.goes(4, 1), 1);
        x.people(1, 2);
        due.is("fine less than people times way", x.goes(4, 1), NONE);
        x.fine(1, 9);
        due.is("fine above", x.goes(4, 1), 1);
        due.is("goes(5, 0)", x.goes(5, 0), BAD);
        due.is("goes(-1, 0)", x.goes(-1, 0), BAD);
        due.is("goes(0, 3)", x.goes(0, 3), BAD);
        due.is("goes(0, -1)", x.goes(0, -1), BAD);
        x.open(0);
        for (int kind = 0; kind <= 4; kind++) {
            due.is("the empty set: goes(" + kind + ", 0)", x.goes(kind, 0), NONE);
        }
        due.is("BAD ahead of NONE", x.goes(0, 9), BAD);
        goesToRooms();
    }

    private static void goesToRooms() {
        HallDesk x = desk(3, new int[][] {{1, 1, 1}, {1, 1, 1}, {1, 1, 1}});
        x.open(7);
        x.room(0, 1);
        x.room(1, 1);
        due.is("town 0 to the lesser hall", x.goes(3, 0), 0);
        due.is("then town 1", x.goes(3, 1), 1);
        due.is("then town 2", x.goes(3, 2), 2);
        x.room(2, 0);
        due.is("can not be", x.goes(3, 0), NONE);
        x.room(1, 2);
        x.way(0, 2, 0);
        due.is("what costs least goes ahead of lesser halls", x.goes(3, 0), 1);
        due.is("so does town 1", x.goes(3, 1), 1);
        due.is("so that town 2 has the room", x.goes(3, 2), 0);
        x.undo();
        due.is("after undo: town 0", x.goes(3, 0), 0);
        due.is("after undo: town 2", x.goes(3, 2), 1);
        x.room(2, 1);
        x.people(0, 2);
        due.is("a change of people: town 0", x.goes(3, 0), 1);
        due.is("a change of people: town 1", x.goes(3, 1), 0);
        due.is("a change of people: town 2", x.goes(3, 2), 2);
        x.open(3);
        due.is("a change in hand: they do not fit", x.goes(3, 0), NONE);
    }

    private static void worst() {
        due.promise(20);
        HallDesk x = three();
        x.open(7);
        due.is("closing costs most: hall 2", x.worst(5), 2);
        due.is("no other hall", x.worst(6), NONE);
        x.open(3);
        due.is("worst(5)", x.worst(5), 1);
        due.is("worst(6)", x.worst(6), 2);
        x.open(1);
        due.is("one hall", x.worst(5), NONE);
        due.is("rivals of one: 3 people by hall 2, 2 by hall 1", x.worst(6), 2);
        x.open(0);
        due.is("the empty set, 5", x.worst(5), NONE);
        due.is("the empty set, 6", x.worst(6), NONE);
        due.is("worst(4)", x.worst(4), BAD);
        due.is("worst(7)", x.worst(7), BAD);
        due.is("worst(0)", x.worst(0), BAD);
        due.is("worst(-1)", x.worst(-1), BAD);
        HallDesk y = desk(1, new int[][] {{4}, {4}, {4}, {4}});
        y.open(6);
        due.is("alike: the least of the set", y.worst(5), 1);
        due.is("alike: the least of the others, though none is taken", y.worst(6), 0);
        y.open(9);
        due.is("alike: the least of the others", y.worst(6), 1);
    }

    private static void least() {
        due.promise(21);
        HallDesk x = three();
        due.is("least(0, 1)", x.least(0, 1), 8 + 12 + 6);
        due.is("least(0, 3)", x.least(0, 3), 8);
        due.is("least(0, -1)", x.least(0, -1), 8);
        due.is("least(0, 0)", x.least(0, 0), NONE);
        due.is("least(0, 4)", x.least(0, 4), NONE);
        due.is("least(1, 1)", x.least(1, 1), 8);
        due.is("least(2, 1)", x.least(2, 1), 10 + 27 + 10);
        due.is("least(2, -1)", x.least(2, -1), 47);
        due.is("least(3, -1)", x.least(3, -1), 47);
        due.is("least(4, -1)", x.least(4, -1), 0);
        due.is("least(4, 1)", x.least(4, 1), 10);
        due.is("least(5, 1)", x.least(5, 1), NONE);
        due.is("least(5, 2)", x.least(5, 2), 33);
        due.is("least(5, 3)", x.least(5, 3), 2 + 27);
        due.is("least(6, 1)", x.least(6, 1), 3);
        due.is("least(6, 3)", x.least(6, 3), 0);
        due.is("least(7, 1)", x.least(7, 1), BAD);
        due.is("least(-1, 1)", x.least(-1, 1), BAD);
        due.is("least(0, -2)", x.least(0, -2), BAD);
        due.is("least(0, 8)", x.least(0, 8), BAD);
        due.is("least(0, 7)", x.least(0, 7), NONE);
        for (int h = 0; h < 3; h++) {
            x.room(h, 0);
        }
        due.is("no rooms: least(3, -1)", x.least(3, -1), NONE);
        due.is("it does not take anything in hand", x.opened(), 0);
    }

    private static void manyBestNumber() {
        HallDesk x = desk(2, new int[][] {{1, 3}, {3, 1}, {1, 3}, {2, 2}});
        due.promise(22);
        due.is("many(0, 1)", x.many(0, 1), 4);
        due.is("many(0, 2)", x.many(0, 2), 2);
        due.is("many(0, -1)", x.many(0, -1), 6);
        due.is("many(1, 1)", x.many(1, 1), 1);
        due.is("many(5, 1)", x.many(5, 1), 0);
        due.is("many(0, 0)", x.many(0, 0), 0);
        due.is("many(4, -1): with no fines and prices all sets", x.many(4, -1), 16);
        due.is("many(4, 0)", x.many(4, 0), 1);
        due.is("many(0, 7)", x.many(0, 7), 0);
        due.is("many(7, 0)", x.many(7, 0), BAD);
        due.is("many(-1, 0)", x.many(-1, 0), BAD);
        due.is("many(0, 8)", x.many(0, 8), BAD);
        due.is("many(0, -2)", x.many(0, -2), BAD);
        due.promise(23);
        due.is("best(0, 2, 1)", x.best(0, 2, 1), 6);
        due.is("it comes in hand", x.opened(), 6);
        due.is("best(0, 2, 0)", x.best(0, 2, 0), 3);
        due.is("best(0, 2, 2)", x.best(0, 2, 2), NONE);
        due.is("best(0, 2, HIGH)", x.best(0, 2, HIGH), NONE);
        due.is("in hand stays", x.opened(), 3);
        due.is("best(0, 2, -1)", x.best(0, 2, -1), BAD);
        due.is("best(7, 2, 0)", x.best(7, 2, 0), BAD);
        due.is("best(-1, 2, 0)", x.best(-1, 2, 0), BAD);
        due.is("best(0, 8, 0)", x.best(0, 8, 0), BAD);
        due.is("best(0, -2, 0)", x.best(0, -2, 0), BAD);
        due.is("best(5, 1, 0)", x.best(5, 1, 0), NONE);
        due.is("in hand stays still", x.opened(), 3);
        due.is("best(4, 0, 0)", x.best(4, 0, 0), 0);
        int[] all = {3, 6, 7, 11, 14, 15};
        for (int i = 0; i < all.length; i++) {
            due.promise(23);
            due.is("best(0, -1, " + i + ")", x.best(0, -1, i), all[i]);
            due.promise(24);
            due.is("number(0, -1)", x.number(0, -1), i);
        }
        x.open(6);
        due.is("number(0, 2)", x.number(0, 2), 1);
        due.is("of another size", x.number(0, 3), NONE);
        x.open(5);
        due.is("not best", x.number(0, 2), NONE);
        due.is("no best at all", x.number(5, 1), NONE);
        x.open(0);
        due.is("the empty set", x.number(4, -1), 0);
        due.is("the empty set has no sum", x.number(0, 0), NONE);
        due.is("number(7, 0)", x.number(7, 0), BAD);
        due.is("number(-1, 0)", x.number(-1, 0), BAD);
        due.is("number(0, 8)", x.number(0, 8), BAD);
        due.is("number(0, -2)", x.number(0, -2), BAD);
    }

    private static void better() {
        due.promise(25);
        HallDesk x = three();
        due.is("from none: the best one", x.better(0, 1), 1);
        due.is("opened()", x.opened(), 4);
        due.is("then one more", x.better(0, 1), 1);
        due.is("hall 0 (16) or hall 1 (12): hall 1", x.opened(), 6);
        due.is("on to the end", x.better(0, 60), 1);
        due.is("all", x.opened(), 7);
        due.is("none is better", x.better(0, 60), 0);
        due.is("in hand stays", x.opened(), 7);
        x.open(0);
        due.is("n at most", x.better(0, 2), 2);
        due.is("opened() after two", x.opened(), 6);
        due.is("one less or another: PRICED", x.better(2, 60), 2);
        due.is("opened() of PRICED", x.opened(), 1);
        x.open(2);
        due.is("one for another", x.better(2, 1), 1);
        due.is("opened()", x.opened(), 1);
        x.open(1);
        due.is("FINED: none open is least", x.better(4, 5), 1);
        due.is("opened() of FINED", x.opened(), 0);
        due.is("a cost is less than none", x.better(6, 1), 1);
        x.open(1);
        due.is("CLOSED from one", x.better(5, 1), 1);
        due.is("halls 0 and 1, or 0 and 2, cost 37: the least bits", x.opened(), 3);
        due.is("better(0, 0)", x.better(0, 0), BAD);
        due.is("better(0, 61)", x.better(0, 61), BAD);
        due.is("better(7, 1)", x.better(7, 1), BAD);
        due.is("better(-1, 1)", x.better(-1, 1), BAD);
        due.is("better(0, 60) is fine", x.better(0, 60), 1);
        HallDesk y = desk(1, new int[][] {{9}, {4}, {4}});
        y.open(1);
        y.better(0, 1);
        due.is("of several the least bits", y.opened(), 2);
        HallDesk z = new HallDesk();
        due.is("without halls", z.better(0, 5), 0);
    }

    public static void main(String[] args) {
        open();
        opened();
        cost();
        goes();
        worst();
        least();
        manyBestNumber();
        better();
        due.end("SetsTest");
    }
}
