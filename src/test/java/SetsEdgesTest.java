/** The boundary cases of the terms' section 2 and of promises 16 to 25, a test for each sentence that names one. */
public final class SetsEdgesTest {
    private static final int NONE = Edge.NONE, BAD = Edge.BAD, HIGH = Edge.HIGH, LOW = Edge.LOW, NO_WAY = Edge.NO_WAY;
    private static final Due due = new Due();
    private static final Edge edge = new Edge(due);

    // ---- promises 16 and 17: what is in hand

    private static void openBits() {
        due.sentence("promise 16", "BAD: bits that are no HALLS");
        edge.range("open", Edge::rich, (x, v) -> x.open(v), 0, 15);
        edge.range("open, full", Edge::full, (x, v) -> x.open(v), 0, 127);
        edge.range("open, no halls", HallDesk::new, (x, v) -> x.open(v), 0, 0);
        edge.leavesAll("a hall and a bit that is none", Edge::rich, x -> x.open(17), BAD);
        edge.leavesAll("the highest bit", Edge::full, x -> x.open(LOW + 1), BAD);
    }

    private static void openHowMany() {
        due.sentence("promise 16", "The SET IN HAND is that: how many HALLS");
        HallDesk x = Edge.full();
        int[] sets = {0, 1, 64, 65, 126, 127};
        int[] sizes = {0, 1, 1, 2, 6, 7};
        for (int i = 0; i < sets.length; i++) {
            due.is("open(" + sets[i] + ")", x.open(sets[i]), sizes[i]);
            due.is("opened()", x.opened(), sets[i]);
        }
    }

    // ---- promise 18: costs

    private static void costKinds() {
        due.sentence("promise 18", "ITS COST by a KIND. BAD");
        edge.range("cost", Edge::rich, (x, v) -> x.cost(v), 0, 6);
        edge.leavesAll("BAD ahead of NONE: cost(7) of the empty set", Edge::full, x -> x.cost(7), BAD);
    }

    private static void emptySetWithTowns() {
        due.sentence("terms 2", "The empty SET has a COST with KIND 4 (all are left)");
        HallDesk x = Edge.desk(2, 2);
        x.fine(0, 6);
        x.fine(1, 100000);
        due.is("cost(4)", x.cost(4), 100006);
        for (int kind = 0; kind <= 6; kind++) {
            if (kind != 4) {
                due.is("cost(" + kind + ")", x.cost(kind), NONE);
            }
        }
    }

    private static void emptySetWithoutTowns() {
        due.sentence("terms 2", "The empty SET has a COST, without TOWNS, with 0 to 3; none with 5 and 6");
        HallDesk x = Edge.withPrices(Edge.desk(0, 2), 3, 4);
        for (int kind = 0; kind <= 6; kind++) {
            due.is("cost(" + kind + ")", x.cost(kind), kind <= 4 ? 0 : NONE);
        }
        x.town();
        due.is("cost(0) as a town comes", x.cost(0), NONE);
        due.is("cost(3) as a town comes", x.cost(3), NONE);
        x.undo();
        due.is("cost(0) as it goes", x.cost(0), 0);
        due.is("cost(3) as it goes", x.cost(3), 0);
    }

    private static void setsWithoutTowns() {
        due.sentence("terms 2", "ITS COST: without TOWNS there is nothing but PRICES");
        HallDesk x = Edge.inHand(Edge.withPrices(Edge.desk(0, 2), 3, 4), 2);
        int[] ofOne = {0, 0, 4, 4, 4, NONE, 0};
        int[] ofTwo = {0, 0, 7, 7, 7, 0, 0};
        x.room(1, 0);
        for (int kind = 0; kind <= 6; kind++) {
            due.is("one hall: cost(" + kind + ")", x.cost(kind), ofOne[kind]);
        }
        x.open(3);
        for (int kind = 0; kind <= 6; kind++) {
            due.is("two halls: cost(" + kind + ")", x.cost(kind), ofTwo[kind]);
        }
    }

    private static HallDesk dearest() {
        HallDesk x = Edge.full();
        for (int t = 0; t < 8; t++) {
            x.people(t, 20);
            x.fine(t, 100000);
        }
        for (int h = 0; h < 7; h++) {
            x.price(h, 100000);
        }
        return x;
    }

    private static void greatestCosts() {
        due.sentence("terms 2", "ITS COST, the greatest that can be");
        HallDesk x = Edge.inHand(dearest(), 127);
        int[] costs = {160000000, NO_WAY, 160700000, 160700000, 1500000, 160000000, 0};
        for (int kind = 0; kind <= 6; kind++) {
            due.is("cost(" + kind + ")", x.cost(kind), costs[kind]);
        }
        x.open(63);
        x.sheet(6, 0, 8);
        due.is("a rival takes all", x.cost(6), 160);
        due.is("by hall 6", x.worst(6), 6);
        x.open(0);
        due.is("all are left", x.cost(4), 800000);
    }

    private static void sumAndMost() {
        due.sentence("terms 2", "Each TOWN's PEOPLE times its least WAY to a HALL of the SET; the greatest of these WAYS");
        HallDesk x = Edge.withPeople(Edge.withWays(2, new int[] {0, 1000}, new int[] {1000, 0}), 20, 3);
        x.open(1);
        due.is("SUM of the first", x.cost(0), 3000);
        due.is("MOST does not count PEOPLE", x.cost(1), 1000);
        x.open(2);
        due.is("SUM of the second", x.cost(0), 20000);
        due.is("MOST of the second, by town 0 alone", x.cost(1), 1000);
        x.open(3);
        due.is("SUM of both", x.cost(0), 0);
        due.is("MOST of both", x.cost(1), 0);
    }

    // ---- kind 3: rooms

    private static void roomJustEnough() {
        due.sentence("terms 2", "No HALL having more PEOPLE than its ROOM");
        HallDesk x = Edge.inHand(Edge.withPeople(Edge.withWays(2, new int[] {1, 1}), 20, 3), 1);
        x.room(0, 23);
        due.is("just enough", x.cost(3), 23);
        due.is("goes(3, 1)", x.goes(3, 1), 0);
        x.room(0, 22);
        due.is("one too few", x.cost(3), NONE);
        due.is("goes(3, 1)", x.goes(3, 1), NONE);
        x.room(0, 0);
        due.is("no room", x.cost(3), NONE);
    }

    private static void roomForAllAtFirst() {
        due.sentence("terms 2", "A ROOM of 200 at first has all PEOPLE that there can be");
        HallDesk x = Edge.inHand(dearest(), 1);
        due.is("160 people", x.cost(3), 160100000);
        x.room(0, 160);
        due.is("room 160", x.cost(3), 160100000);
        x.room(0, 159);
        due.is("room 159", x.cost(3), NONE);
    }

    private static void townsGoWhole() {
        due.sentence("terms 2", "Each TOWN goes whole to one HALL of the SET; NONE, if it can not be");
        HallDesk x = Edge.inHand(Edge.withPeople(Edge.withWays(1, new int[] {1}, new int[] {1}), 4), 3);
        x.room(0, 3);
        x.room(1, 3);
        due.is("room for 6, yet not for 4 in one", x.cost(3), NONE);
        due.is("no set has it", x.least(3, -1), NONE);
        x.room(1, 4);
        due.is("room for 4 in one", x.cost(3), 4);
        due.is("goes(3, 0)", x.goes(3, 0), 1);
        HallDesk y = Edge.inHand(Edge.withPeople(Edge.desk(3, 2), 2, 2, 2), 3);
        y.room(0, 3);
        y.room(1, 3);
        due.is("three twos in two threes", y.cost(3), NONE);
        y.room(0, 4);
        due.is("in a four and a three", y.cost(3), 6 * NO_WAY);
    }

    private static void hallWithoutTowns() {
        due.sentence("terms 2", "And the PRICES: of HALLS to which none goes, too");
        HallDesk x = Edge.withPrices(Edge.withWays(1, new int[] {5}, new int[] {9}), 10, 100);
        x.room(1, 0);
        x.open(3);
        due.is("both", x.cost(3), 115);
        x.open(2);
        due.is("only the one without room", x.cost(3), NONE);
    }

    private static void nearestIsFull() {
        due.sentence("terms 2", "The least of PEOPLE times WAYS, together, as not all fit to the nearest");
        HallDesk x = Edge.withWays(8, new int[] {0, 0, 0, 0, 0, 0, 0, 0}, new int[] {9, 8, 7, 6, 5, 4, 3, 2},
                new int[] {10, 10, 10, 10, 10, 10, 10, 1});
        x.open(7);
        x.room(0, 5);
        x.room(1, 2);
        x.room(2, 1);
        due.is("towns 5 and 6 to hall 1, 7 to hall 2", x.cost(3), 4 + 3 + 1);
        int[] goes = {0, 0, 0, 0, 0, 1, 1, 2};
        for (int t = 0; t < 8; t++) {
            due.is("goes(3, " + t + ")", x.goes(3, t), goes[t]);
        }
        x.room(1, 1);
        due.is("one too few", x.cost(3), NONE);
    }

    // ---- kind 4: fines

    private static void fineAsMuch() {
        due.sentence("terms 2, promise 19", "NONE if it is left (when the FINE is less than PEOPLE times the WAY)");
        HallDesk x = Edge.inHand(Edge.withPeople(Edge.withWays(1, new int[] {5}), 4), 1);
        int[][] rows = {{19, 19, NONE}, {20, 20, 0}, {21, 20, 0}};
        for (int[] row : rows) {
            x.fine(0, row[0]);
            due.is("fine " + row[0] + ": cost(4)", x.cost(4), row[1]);
            due.is("fine " + row[0] + ": goes(4, 0)", x.goes(4, 0), row[2]);
        }
        x.way(0, 0, 0);
        x.fine(0, 0);
        due.is("fine 0 and way 0: goes(4, 0)", x.goes(4, 0), 0);
        x.lose(0);
        x.fine(0, 100000);
        due.is("the greatest fine is less than no way", x.goes(4, 0), NONE);
        due.is("cost(4)", x.cost(4), 100000);
    }

    private static void fineOfSome() {
        due.sentence("terms 2", "As PRICED, but a TOWN may be left, at its FINE");
        HallDesk x = Edge.inHand(Edge.withPrices(Edge.withWays(3, new int[] {5, 5, 5}), 100), 1);
        x.fine(0, 1);
        x.fine(2, 9);
        due.is("one at its fine, one at none, one goes", x.cost(4), 100 + 1 + 0 + 5);
    }

    // ---- kinds 5 and 6

    private static void closedOfTwoAtLeast() {
        due.sentence("terms 2, promise 20", "CLOSED (the SET has two at least); a SET of one HALL has none with 5");
        HallDesk x = Edge.withWays(1, new int[] {7}, new int[] {4}, new int[] {4});
        int[][] rows = {{0, NONE, NONE}, {1, NONE, NONE}, {4, NONE, NONE}, {3, 7, 1}, {6, 4, 1}, {5, 7, 2}, {7, 4, 0}};
        for (int[] row : rows) {
            x.open(row[0]);
            due.is("set " + row[0] + ": cost(5)", x.cost(5), row[1]);
            due.is("set " + row[0] + ": worst(5)", x.worst(5), row[2]);
        }
    }

    private static void closedAtTheGreatest() {
        due.sentence("terms 2, promise 20", "CLOSED: the greatest SUM of what is left; the HALL whose closing costs most");
        HallDesk first = Edge.inHand(Edge.withWays(2, new int[] {0, 5}, new int[] {9, 0}), 3);
        due.is("closing hall 0 leaves 9, hall 1 5: cost(5)", first.cost(5), 9);
        due.is("worst(5)", first.worst(5), 0);
        HallDesk last = Edge.inHand(Edge.withWays(2, new int[] {0, 9}, new int[] {5, 0}), 3);
        due.is("closing hall 0 leaves 5, hall 1 9: cost(5)", last.cost(5), 9);
        due.is("worst(5)", last.worst(5), 1);
    }

    private static void closedWithoutPrices() {
        due.sentence("terms 2", "CLOSED: the greatest SUM of what is left of the SET: a SUM, without PRICES");
        HallDesk x = Edge.withPrices(Edge.withWays(1, new int[] {7}, new int[] {4}), 50, 60);
        x.open(3);
        due.is("cost(5)", x.cost(5), 7);
        due.is("worst(5)", x.worst(5), 1);
    }

    private static void rivalIsNearer() {
        due.sentence("terms 2", "RIVAL: all whose WAY to that is less than the least one to the SET");
        HallDesk x = Edge.withPeople(Edge.withWays(2, new int[] {5, 5}, new int[] {5, 6}), 20, 3);
        x.open(1);
        due.is("as far, or farther", x.cost(6), 0);
        x.way(1, 0, 4);
        due.is("nearer for one town", x.cost(6), 20);
        x.way(1, 1, 4);
        due.is("nearer for both", x.cost(6), 23);
        x.lose(1);
        due.is("no ways", x.cost(6), 0);
    }

    private static void rivalByOneHall() {
        due.sentence("terms 2", "RIVAL: the most PEOPLE that a rival takes by a HALL that is not in the SET");
        HallDesk x = Edge.withWays(3, new int[] {5, 5, 5}, new int[] {1, 9, 9}, new int[] {9, 1, 1}, new int[] {1, 9, 1});
        x.open(1);
        due.is("two by one hall, not three by two", x.cost(6), 2);
        due.is("worst(6): of several the least", x.worst(6), 2);
        x.open(5);
        due.is("what is nearest in the set counts", x.cost(6), 1);
        due.is("worst(6)", x.worst(6), 1);
    }

    private static void noOtherHall() {
        due.sentence("terms 2, promise 20", "RIVAL: 0 if there is no other HALL; worst: NONE then");
        HallDesk x = Edge.inHand(Edge.withWays(1, new int[] {7}), 1);
        due.is("cost(6)", x.cost(6), 0);
        due.is("worst(6)", x.worst(6), NONE);
        x.hall();
        due.is("cost(6) with another that takes none", x.cost(6), 0);
        due.is("worst(6) with another that takes none", x.worst(6), 1);
        HallDesk all = Edge.inHand(Edge.full(), 127);
        due.is("all seven: cost(6)", all.cost(6), 0);
        due.is("all seven: worst(6)", all.worst(6), NONE);
    }

    private static void emptySetWithFiveAndSix() {
        due.sentence("terms 2, promise 20", "The empty one has none with 5 and 6");
        HallDesk x = Edge.rich();
        x.open(0);
        for (int kind = 5; kind <= 6; kind++) {
            due.is("cost(" + kind + ")", x.cost(kind), NONE);
            due.is("worst(" + kind + ")", x.worst(kind), NONE);
        }
    }

    // ---- promise 19: goes

    private static void goesKindsAndTowns() {
        due.sentence("promise 19", "BAD: kind 0 .. 4, town");
        edge.range("kind of goes", Edge::rich, (x, v) -> x.goes(v, 0), 0, 4);
        edge.range("town of goes", Edge::rich, (x, v) -> x.goes(0, v), 0, 2);
    }

    private static void goesWithoutCost() {
        due.sentence("promise 19", "NONE: the SET has no such COST; BAD stands ahead of it");
        HallDesk x = Edge.rich();
        x.open(0);
        for (int kind = 0; kind <= 4; kind++) {
            due.is("goes(" + kind + ", 0)", x.goes(kind, 0), NONE);
        }
        due.is("goes(5, 0)", x.goes(5, 0), BAD);
        due.is("goes(-1, 0)", x.goes(-1, 0), BAD);
        due.is("goes(0, 3)", x.goes(0, 3), BAD);
        due.is("goes(3, -1)", x.goes(3, -1), BAD);
    }

    private static void goesToTheLeastHall() {
        due.sentence("promise 19", "That of its least WAY (of several the least HALL)");
        HallDesk x = Edge.withWays(1, new int[] {3}, new int[] {4}, new int[] {3}, new int[] {3});
        x.fine(0, 9);
        int[][] rows = {{15, 0}, {14, 2}, {12, 2}, {10, 3}, {2, 1}, {6, 2}};
        for (int[] row : rows) {
            x.open(row[0]);
            for (int kind = 0; kind <= 4; kind++) {
                due.is("set " + row[0] + ": goes(" + kind + ", 0)", x.goes(kind, 0), row[1]);
            }
        }
        HallDesk last = Edge.inHand(Edge.full(), 64);
        due.is("the last hall, no way: goes(0, 7)", last.goes(0, 7), 6);
        due.is("the last hall, no way: goes(3, 7)", last.goes(3, 7), 6);
    }

    private static void goesToTheLesserHallFirst() {
        due.sentence("promise 19", "Of several that in which TOWN 0 goes to the lesser HALL, and so on");
        HallDesk x = Edge.withPeople(Edge.withWays(4, new int[] {1, 1, 1, 1}, new int[] {1, 1, 1, 1}), 2, 1, 1, 2);
        x.open(3);
        x.room(0, 3);
        x.room(1, 3);
        int[] goes = {0, 0, 1, 1};
        for (int t = 0; t < 4; t++) {
            due.is("goes(3, " + t + ")", x.goes(3, t), goes[t]);
        }
        x.room(0, 2);
        x.room(1, 4);
        int[] others = {0, 1, 1, 1};
        for (int t = 0; t < 4; t++) {
            due.is("other rooms: goes(3, " + t + ")", x.goes(3, t), others[t]);
        }
    }

    private static void goesWhereAllCostLeast() {
        due.sentence("promise 19", "With 3 that of the choice that costs least, ahead of lesser HALLS");
        HallDesk x = Edge.withWays(2, new int[] {1, 1}, new int[] {2, 3});
        x.open(3);
        x.room(0, 1);
        due.is("cost(3)", x.cost(3), 3);
        due.is("goes(3, 0)", x.goes(3, 0), 1);
        due.is("goes(3, 1)", x.goes(3, 1), 0);
        x.way(1, 1, 2);
        due.is("as dear: goes(3, 0)", x.goes(3, 0), 0);
        due.is("as dear: goes(3, 1)", x.goes(3, 1), 1);
    }

    private static void goesOfAllHalls() {
        due.sentence("promise 19", "And so on: 8 TOWNS, 7 HALLS, each with ROOM for one, but the last for two");
        HallDesk x = Edge.inHand(Edge.full(), 127);
        for (int h = 0; h < 7; h++) {
            x.room(h, h == 6 ? 2 : 1);
        }
        due.is("cost(3)", x.cost(3), 8 * NO_WAY);
        for (int t = 0; t < 8; t++) {
            due.is("goes(3, " + t + ")", x.goes(3, t), Math.min(t, 6));
        }
        x.room(6, 1);
        due.is("one too few", x.cost(3), NONE);
    }

    // ---- promise 20: worst

    private static void worstKinds() {
        due.sentence("promise 20", "BAD: kind; ahead of NONE");
        edge.range("worst", Edge::rich, (x, v) -> x.worst(v), 5, 6);
        edge.leavesAll("worst(4) of the empty set", Edge::full, x -> x.worst(4), BAD);
        edge.leavesAll("worst(7) of the empty set", Edge::full, x -> x.worst(7), BAD);
        edge.leavesAll("worst(0)", Edge::rich, x -> x.worst(0), BAD);
    }

    private static void worstOfSeveral() {
        due.sentence("promise 20", "The HALL whose closing costs most, or by which the rival takes most, of several the least");
        HallDesk x = Edge.withWays(1, new int[] {4}, new int[] {4}, new int[] {4}, new int[] {4});
        x.open(12);
        due.is("worst(5)", x.worst(5), 2);
        due.is("worst(6)", x.worst(6), 0);
        x.open(3);
        due.is("worst(5)", x.worst(5), 0);
        due.is("worst(6)", x.worst(6), 2);
        HallDesk none = Edge.inHand(Edge.desk(0, 7), 96);
        due.is("without towns: worst(5)", none.worst(5), 5);
        due.is("without towns: worst(6)", none.worst(6), 0);
    }

    // ---- promises 21 to 24: the best

    private static void leastRanges() {
        due.sentence("promise 21", "The least COST of a KIND and k (-1 .. 7). BAD");
        edge.range("kind of least", Edge::full, (x, v) -> x.least(v, -1), 0, 6);
        edge.range("k of least", Edge::full, (x, v) -> x.least(0, v), -1, 7);
        edge.leavesAll("BAD ahead of NONE", HallDesk::new, x -> x.least(5, 8), BAD);
    }

    private static void leastOfNoSet() {
        due.sentence("promise 21", "NONE: no such SET has one");
        HallDesk x = Edge.rich();
        for (int kind = 0; kind <= 6; kind++) {
            String of = "least(" + kind + ", ";
            due.is(of + "5): there are but four halls", x.least(kind, 5), NONE);
            due.isTrue(of + "4)", x.least(kind, 4) >= 0);
            due.is(of + "0)", x.least(kind, 0), kind == 4 ? 11 + 70 : NONE);
            due.isTrue(of + "1)", (x.least(kind, 1) == NONE) == (kind == 5));
        }
        for (int h = 0; h < 4; h++) {
            x.room(h, 0);
        }
        due.is("no rooms: least(3, -1)", x.least(3, -1), NONE);
        due.is("no rooms: many(3, -1)", x.many(3, -1), 0);
        due.is("no rooms: best(3, -1, 0)", x.best(3, -1, 0), NONE);
        due.is("no rooms: number(3, -1)", x.number(3, -1), NONE);
    }

    private static void leastOfAnySize() {
        due.sentence("terms 2", "Of SETS of k HALLS (k -1: of any)");
        HallDesk x = Edge.withPrices(Edge.withWays(2, new int[] {0, 9}, new int[] {9, 0}, new int[] {4, 4}), 3, 3, 1);
        int[] bySize = {NONE, 9, 6, 7};
        for (int k = 0; k <= 3; k++) {
            due.is("least(2, " + k + ")", x.least(2, k), bySize[k]);
        }
        due.is("least(2, -1)", x.least(2, -1), 6);
    }

    private static void manyRanges() {
        due.sentence("promise 22", "How many are BEST. BAD.");
        edge.range("kind of many", Edge::full, (x, v) -> x.many(v, -1), 0, 6);
        edge.range("k of many", Edge::full, (x, v) -> x.many(0, v), -1, 7);
        HallDesk x = Edge.desk(0, 7);
        int[] bySize = {1, 7, 21, 35, 35, 21, 7, 1};
        for (int k = 0; k <= 7; k++) {
            due.is("many(0, " + k + ")", x.many(0, k), bySize[k]);
            due.is("many(5, " + k + ")", x.many(5, k), k < 2 ? 0 : bySize[k]);
            due.is("many(6, " + k + ")", x.many(6, k), k < 1 ? 0 : bySize[k]);
        }
        due.is("many(0, -1)", x.many(0, -1), 128);
        due.is("many(5, -1)", x.many(5, -1), 120);
        due.is("many(6, -1)", x.many(6, -1), 127);
    }

    private static HallDesk allAlike() {
        return Edge.inHand(Edge.desk(0, 7), 5);
    }

    private static void bestRanges() {
        due.sentence("promise 23", "BAD");
        edge.range("kind of best", SetsEdgesTest::allAlike, (x, v) -> x.best(v, -1, 0), 0, 6);
        edge.range("k of best", SetsEdgesTest::allAlike, (x, v) -> x.best(0, v, 0), -1, 7);
        edge.leavesAll("i of best -1", SetsEdgesTest::allAlike, x -> x.best(0, -1, -1), BAD);
        edge.leavesAll("i of best LOW", SetsEdgesTest::allAlike, x -> x.best(0, -1, LOW), BAD);
        edge.leavesAll("BAD ahead of NONE: kind", SetsEdgesTest::allAlike, x -> x.best(7, 1, HIGH), BAD);
        edge.leavesAll("BAD ahead of NONE: k", SetsEdgesTest::allAlike, x -> x.best(5, 8, HIGH), BAD);
        edge.leavesAll("BAD ahead of NONE: i", SetsEdgesTest::allAlike, x -> x.best(5, 1, -1), BAD);
    }

    private static void bestNotSoMany() {
        due.sentence("promise 23", "NONE: there are not so many");
        HallDesk x = allAlike();
        due.is("best(0, -1, 127)", x.best(0, -1, 127), 127);
        due.is("opened()", x.opened(), 127);
        due.is("best(0, 7, 0)", x.best(0, 7, 0), 127);
        edge.leavesAll("best(0, -1, 128)", SetsEdgesTest::allAlike, y -> y.best(0, -1, 128), NONE);
        edge.leavesAll("best(0, 7, 1)", SetsEdgesTest::allAlike, y -> y.best(0, 7, 1), NONE);
        edge.leavesAll("best(5, 1, 0)", SetsEdgesTest::allAlike, y -> y.best(5, 1, 0), NONE);
        edge.leavesAll("best(0, 0, HIGH)", SetsEdgesTest::allAlike, y -> y.best(0, 0, HIGH), NONE);
        edge.leavesAll("best(0, 5, 0) of four halls", Edge::rich, y -> y.best(0, 5, 0), NONE);
    }

    private static void bestByBits() {
        due.sentence("terms 2, promises 23, 24", "They have numbers from 0 on, in order of their bits as numbers");
        for (int k = -1; k <= 7; k++) {
            HallDesk x = allAlike();
            int i = 0;
            for (int set = 0; set < 128; set++) {
                if (k == -1 || Integer.bitCount(set) == k) {
                    due.is("best(0, " + k + ", " + i + ")", x.best(0, k, i), set);
                    due.is("number(0, " + k + ")", x.number(0, k), i);
                    i++;
                }
            }
            due.is("best(0, " + k + ", " + i + ")", x.best(0, k, i), NONE);
        }
    }

    private static void numberRanges() {
        due.sentence("promise 24", "BAD");
        edge.range("kind of number", () -> Edge.inHand(allAlike(), 3), (x, v) -> x.number(v, -1), 0, 6);
        edge.leavesAll("number(0, -2)", SetsEdgesTest::allAlike, x -> x.number(0, -2), BAD);
        edge.leavesAll("number(0, 8)", SetsEdgesTest::allAlike, x -> x.number(0, 8), BAD);
        due.is("number(0, 7) of all", Edge.inHand(allAlike(), 127).number(0, 7), 0);
        due.is("number(0, -1) of all", Edge.inHand(allAlike(), 127).number(0, -1), 127);
    }

    private static void numberOfNone() {
        due.sentence("promise 24", "NONE: it is none");
        HallDesk x = Edge.withWays(1, new int[] {4}, new int[] {4}, new int[] {5});
        x.open(2);
        due.is("number(0, 1)", x.number(0, 1), 1);
        due.is("of another size", x.number(0, 2), NONE);
        due.is("it has no cost by that kind", x.number(5, -1), NONE);
        x.open(4);
        due.is("not best of its size", x.number(0, 1), NONE);
        x.open(0);
        due.is("the empty set", x.number(0, -1), NONE);
        due.is("none is best", x.number(0, 0), NONE);
        due.is("the empty set by kind 4", x.number(4, 0), 0);
    }

    // ---- promise 25: better

    private static void betterRanges() {
        due.sentence("promise 25", "n times (1 .. 60) at most. BAD.");
        edge.range("kind of better", Edge::rich, (x, v) -> x.better(v, 1), 0, 6);
        edge.range("n of better", Edge::rich, (x, v) -> x.better(0, v), 1, 60);
    }

    /** Seven halls, each beside a town of its own, and 10 from all others. */
    private static HallDesk sevenPairs() {
        int[][] ways = new int[7][7];
        for (int h = 0; h < 7; h++) {
            for (int t = 0; t < 7; t++) {
                ways[h][t] = h == t ? 0 : 10;
            }
        }
        return Edge.withWays(7, ways);
    }

    private static void betterAtMost() {
        due.sentence("promise 25", "n times at most: how many times");
        for (int n : new int[] {1, 2, 3, 6, 7, 8, 60}) {
            HallDesk x = sevenPairs();
            int times = Math.min(n, 7);
            due.is("better(0, " + n + ")", x.better(0, n), times);
            due.is("opened(): one hall more each time, of several the least bits", x.opened(), (1 << times) - 1);
            due.is("cost(0)", x.cost(0), 10 * (7 - times));
        }
    }

    private static void betterByOneLess() {
        due.sentence("promise 25", "SETS that have one HALL less");
        HallDesk x = Edge.inHand(Edge.withPrices(Edge.desk(0, 3), 1, 5, 3), 7);
        int[] sets = {5, 1, 0};
        for (int set : sets) {
            due.is("better(2, 1)", x.better(2, 1), 1);
            due.is("opened()", x.opened(), set);
        }
        due.is("none is left", x.better(2, 1), 0);
    }

    private static void betterByAnother() {
        due.sentence("promise 25", "SETS that have one for another");
        HallDesk x = Edge.withPrices(Edge.withWays(1, new int[] {9}, new int[] {4}, new int[] {3}), 10, 10, 10);
        x.open(1);
        due.is("better(2, 1)", x.better(2, 1), 1);
        due.is("that which costs least, not the first that costs less", x.opened(), 4);
    }

    private static void betterOfSeveral() {
        due.sentence("promise 25", "Of several that of the least bits");
        HallDesk x = Edge.withWays(1, new int[] {9}, new int[] {4}, new int[] {4});
        x.open(1);
        due.is("better(0, 1)", x.better(0, 1), 1);
        due.is("2 and 4, and 3 and 5, cost 4: 2", x.opened(), 2);
    }

    private static void betterOnlyWhatCostsLess() {
        due.sentence("promise 25", "And cost less: what costs as much is not, nor what is farther off");
        HallDesk x = Edge.withPrices(Edge.withWays(2, new int[] {5, 5}, new int[] {0, 100}, new int[] {100, 0}), 1, 5, 5);
        x.open(1);
        due.is("cost(2)", x.cost(2), 11);
        due.is("better(2, 60)", x.better(2, 60), 0);
        due.is("opened()", x.opened(), 1);
        due.is("though halls 1 and 2 together cost less", x.least(2, -1), 10);
        x.price(1, 4);
        due.is("one less: better(2, 1)", x.better(2, 1), 1);
        due.is("opened()", x.opened(), 3);
    }

    private static void betterWithoutCost() {
        due.sentence("promise 25", "One that has a COST is less than one that has none");
        HallDesk x = Edge.withWays(1, new int[] {7}, new int[] {4});
        due.is("from the empty set: better(0, 1)", x.better(0, 1), 1);
        due.is("opened()", x.opened(), 2);
        x.open(0);
        due.is("sets of one have none by kind 5 either", x.better(5, 60), 0);
        due.is("opened()", x.opened(), 0);
        x.open(1);
        due.is("sets of two have one", x.better(5, 60), 1);
        due.is("opened()", x.opened(), 3);
        due.is("and sets of one are not less", x.better(5, 60), 0);
        x.room(0, 0);
        x.open(1);
        due.is("kind 3, as it can not be", x.better(3, 1), 1);
        due.is("halls 1 alone and with 0 cost 4: the least bits", x.opened(), 2);
    }

    private static void betterOfNothing() {
        due.sentence("promise 25", "How many times: 0 where there is no other SET");
        for (int kind = 0; kind <= 6; kind++) {
            due.is("without halls: better(" + kind + ", 60)", new HallDesk().better(kind, 60), 0);
        }
        HallDesk x = Edge.inHand(Edge.withWays(1, new int[] {7}), 1);
        due.is("one hall: better(0, 60)", x.better(0, 60), 0);
        due.is("opened()", x.opened(), 1);
    }

    private static void hands() {
        openBits();
        openHowMany();
    }

    private static void costs() {
        costKinds();
        emptySetWithTowns();
        emptySetWithoutTowns();
        setsWithoutTowns();
        greatestCosts();
        sumAndMost();
        roomJustEnough();
        roomForAllAtFirst();
        townsGoWhole();
        hallWithoutTowns();
        nearestIsFull();
        fineAsMuch();
        fineOfSome();
        closedOfTwoAtLeast();
        closedAtTheGreatest();
        closedWithoutPrices();
        rivalIsNearer();
        rivalByOneHall();
        noOtherHall();
        emptySetWithFiveAndSix();
    }

    private static void ways() {
        goesKindsAndTowns();
        goesWithoutCost();
        goesToTheLeastHall();
        goesToTheLesserHallFirst();
        goesWhereAllCostLeast();
        goesOfAllHalls();
        worstKinds();
        worstOfSeveral();
    }

    private static void bests() {
        leastRanges();
        leastOfNoSet();
        leastOfAnySize();
        manyRanges();
        bestRanges();
        bestNotSoMany();
        bestByBits();
        numberRanges();
        numberOfNone();
    }

    private static void betters() {
        betterRanges();
        betterAtMost();
        betterByOneLess();
        betterByAnother();
        betterOfSeveral();
        betterOnlyWhatCostsLess();
        betterWithoutCost();
        betterOfNothing();
    }

    public static void main(String[] args) {
        hands();
        costs();
        ways();
        bests();
        betters();
        due.end("SetsEdgesTest");
    }
}
