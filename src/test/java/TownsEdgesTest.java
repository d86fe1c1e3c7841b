/** The boundary cases of the terms' section 1 and of promises 1 to 14, a test for each sentence that names one. */
public final class TownsEdgesTest {
    private static final int NONE = Edge.NONE, BAD = Edge.BAD, NO = Edge.NO, FULL = Edge.FULL, NOTHING = Edge.NOTHING,
            INDEX = Edge.INDEX, SIZE = Edge.SIZE, HIGH = Edge.HIGH, LOW = Edge.LOW, NO_WAY = Edge.NO_WAY;
    private static final Due due = new Due();
    private static final Edge edge = new Edge(due);

    // ---- promise 1: nothing there yet

    private static void nothingToChange() {
        due.sentence("promise 1", "No TOWNS, no HALLS: nothing to change");
        edge.leavesAll("people(0, 1)", HallDesk::new, x -> x.people(0, 1), BAD);
        edge.leavesAll("fine(0, 0)", HallDesk::new, x -> x.fine(0, 0), BAD);
        edge.leavesAll("place(0, 0)", HallDesk::new, x -> x.place(0, 0), BAD);
        edge.leavesAll("price(0, 0)", HallDesk::new, x -> x.price(0, 0), BAD);
        edge.leavesAll("room(0, 0)", HallDesk::new, x -> x.room(0, 0), BAD);
        edge.leavesAll("sheet(0, 0, 0)", HallDesk::new, x -> x.sheet(0, 0, 0), BAD);
        edge.leavesAll("lose(0)", HallDesk::new, x -> x.lose(0), BAD);
        edge.leavesAll("way(0, 0, 0)", HallDesk::new, x -> x.way(0, 0, 0), BAD);
        edge.leavesAll("copy(0, 0, 0, 0, 0)", HallDesk::new, x -> x.copy(0, 0, 0, 0, 0), BAD);
        edge.leavesAll("claim(0, 0)", HallDesk::new, x -> x.claim(0, 0), BAD);
        edge.leavesAll("open(1)", HallDesk::new, x -> x.open(1), BAD);
        edge.leavesAll("raise()", HallDesk::new, x -> x.raise(), NO);
        edge.leavesAll("undo()", HallDesk::new, x -> x.undo(), NO);
    }

    private static void nothingToSee() {
        due.sentence("promise 1", "No TOWNS, no HALLS: nothing to see");
        HallDesk x = new HallDesk();
        for (int what = 0; what <= 6; what++) {
            due.is("count(" + what + ")", x.count(what), 0);
        }
        due.is("opened()", x.opened(), 0);
        due.is("open(0)", x.open(0), 0);
        due.is("far(0, 0)", x.far(0, 0), BAD);
        due.is("about(0, 0, 0)", x.about(0, 0, 0), BAD);
        due.is("about(1, 0, 0)", x.about(1, 0, 0), BAD);
        due.is("goes(4, 0)", x.goes(4, 0), BAD);
        due.is("worst(5)", x.worst(5), NONE);
        due.is("worst(6)", x.worst(6), NONE);
        due.is("claimed(0)", x.claimed(0), BAD);
        due.is("holds()", x.holds(), 0);
        due.is("fair()", x.fair(), NONE);
        due.is("share(0, 0)", x.share(0, 0), BAD);
        due.is("line(0, 1)", x.line(0, 1), NONE);
        due.is("lineAt(0, 1, 0)", x.lineAt(0, 1, 0), NONE);
    }

    private static void onlyTheEmptySet() {
        due.sentence("promise 1", "No TOWNS, no HALLS: only the empty SET, with a COST of 0 by KINDS 0 to 4");
        HallDesk x = new HallDesk();
        for (int kind = 0; kind <= 6; kind++) {
            boolean has = kind <= 4;
            due.is("cost(" + kind + ")", x.cost(kind), has ? 0 : NONE);
            for (int k = -1; k <= 7; k++) {
                boolean met = has && k <= 0;
                String of = "(" + kind + ", " + k + ")";
                due.is("least" + of, x.least(kind, k), met ? 0 : NONE);
                due.is("many" + of, x.many(kind, k), met ? 1 : 0);
                due.is("number" + of, x.number(kind, k), met ? 0 : NONE);
            }
            due.is("best(" + kind + ", -1, 0)", x.best(kind, -1, 0), has ? 0 : NONE);
            due.is("best(" + kind + ", -1, 1)", x.best(kind, -1, 1), NONE);
            due.is("better(" + kind + ", 60)", x.better(kind, 60), 0);
        }
    }

    // ---- promises 2 and 3: at most 8, at most 7, and how a new one begins

    private static void eightTowns() {
        due.sentence("terms 1, promise 2", "TOWNS, 8 at most, are numbered from 0 as they come. FULL.");
        HallDesk x = new HallDesk();
        for (int i = 0; i < 8; i++) {
            due.is("town()", x.town(), i);
        }
        due.is("the ninth town()", x.town(), FULL);
        edge.leavesAll("town() when full", Edge::full, y -> y.town(), FULL);
    }

    private static void roomForATownAgain() {
        due.sentence("promise 2", "One more TOWN: its number, also where one was taken back");
        HallDesk x = Edge.desk(0, 7);
        for (int i = 0; i < 8; i++) {
            x.town();
        }
        x.undo();
        due.is("town() once more", x.town(), 7);
        due.is("and full again", x.town(), FULL);
    }

    private static void sevenHalls() {
        due.sentence("terms 1, promise 3", "HALLS, 7 at most, are numbered from 0 as they come. FULL.");
        HallDesk x = new HallDesk();
        for (int i = 0; i < 7; i++) {
            due.is("hall()", x.hall(), i);
        }
        due.is("the eighth hall()", x.hall(), FULL);
        edge.leavesAll("hall() when full", Edge::full, y -> y.hall(), FULL);
    }

    private static void roomForAHallAgain() {
        due.sentence("promise 3", "One more HALL: its number, also where one was taken back");
        HallDesk x = Edge.full();
        x.undo();
        due.is("hall() once more", x.hall(), 6);
        due.is("and full again", x.hall(), FULL);
    }

    private static void townAtFirst() {
        due.sentence("terms 1", "A TOWN has PEOPLE (1 at first), a FINE (0 at first), a PLACE (0 at first)");
        HallDesk x = Edge.full();
        for (int town = 0; town < 8; town += 7) {
            due.is("people", x.about(0, town, 0), 1);
            due.is("fine", x.about(0, town, 1), 0);
            due.is("place and 1000", x.about(0, town, 2), 1000);
            due.is("claim", x.claimed(town), 0);
        }
    }

    private static void newTownIsNew() {
        due.sentence("terms 1", "A TOWN that comes where one was taken back is as at first");
        HallDesk x = Edge.desk(1, 0);
        x.people(0, 9);
        x.fine(0, 8);
        x.place(0, 7);
        x.claim(0, 6);
        Edge.undone(x, 4);
        x.town();
        edge.alike("the same as a new one", x, Edge.desk(1, 0));
    }

    private static void hallAtFirst() {
        due.sentence("terms 1", "A HALL has a PRICE (0 at first), a ROOM (200 at first), and a SHEET: MISSING at first");
        HallDesk x = Edge.desk(8, 7);
        for (int hall = 0; hall < 7; hall += 6) {
            due.is("price", x.about(1, hall, 0), 0);
            due.is("room", x.about(1, hall, 1), 200);
            due.is("width", x.about(1, hall, 2), NONE);
            due.is("places", x.about(1, hall, 3), 0);
            due.is("far", x.far(hall, 7), NO_WAY);
        }
        HallDesk y = Edge.desk(1, 1);
        y.price(0, 9);
        y.room(0, 8);
        y.sheet(0, 0, 1);
        Edge.undone(y, 4);
        y.hall();
        edge.alike("one that comes again is as at first", y, Edge.desk(1, 1));
    }

    // ---- promises 4 to 8: numbers of towns and halls

    private static HallDesk threeTowns() {
        return Edge.desk(3, 1);
    }

    private static HallDesk threeHalls() {
        return Edge.desk(1, 3);
    }

    private static void peopleRange() {
        due.sentence("terms 1, promise 4", "A TOWN has PEOPLE 1 .. 20. BAD.");
        edge.range("people", Edge::rich, (x, v) -> x.people(1, v), 1, 20);
        HallDesk x = threeTowns();
        due.is("people(2, 20): how many it had", x.people(2, 20), 1);
        due.is("people(2, 1): how many it had", x.people(2, 1), 20);
        due.is("about(0, 2, 0)", x.about(0, 2, 0), 1);
    }

    private static void fineRange() {
        due.sentence("terms 1, promise 5", "A FINE 0 .. 100000. BAD.");
        edge.range("fine", Edge::rich, (x, v) -> x.fine(1, v), 0, 100000);
        HallDesk x = threeTowns();
        due.is("fine(2, 100000): what it was", x.fine(2, 100000), 0);
        due.is("fine(2, 0): what it was", x.fine(2, 0), 100000);
        due.is("about(0, 2, 1)", x.about(0, 2, 1), 0);
    }

    private static void placeRange() {
        due.sentence("terms 1, promise 6", "A PLACE -1000 .. 1000. BAD.");
        edge.range("place", Edge::rich, (x, v) -> x.place(1, v), -1000, 1000);
        HallDesk x = threeTowns();
        due.is("place(2, -1000): 0", x.place(2, -1000), 0);
        due.is("about(0, 2, 2): PLACE and 1000", x.about(0, 2, 2), 0);
        due.is("place(2, 1000): 0", x.place(2, 1000), 0);
        due.is("about(0, 2, 2): PLACE and 1000", x.about(0, 2, 2), 2000);
    }

    private static void priceRange() {
        due.sentence("terms 1, promise 7", "A HALL has a PRICE 0 .. 100000. BAD.");
        edge.range("price", Edge::rich, (x, v) -> x.price(1, v), 0, 100000);
        HallDesk x = threeHalls();
        due.is("price(2, 100000): what it was", x.price(2, 100000), 0);
        due.is("price(2, 0): what it was", x.price(2, 0), 100000);
        due.is("about(1, 2, 0)", x.about(1, 2, 0), 0);
    }

    private static void roomRange() {
        due.sentence("terms 1, promise 8", "A ROOM 0 .. 200. BAD.");
        edge.range("room", Edge::rich, (x, v) -> x.room(1, v), 0, 200);
        HallDesk x = threeHalls();
        due.is("room(2, 0): what it was", x.room(2, 0), 200);
        due.is("room(2, 200): what it was", x.room(2, 200), 0);
        due.is("about(1, 2, 1)", x.about(1, 2, 1), 200);
    }

    private static void townsThatAreThere() {
        due.sentence("promises 4, 5, 6, 13, 14", "BAD: there is no such TOWN");
        edge.range("people of town", Edge::rich, (x, v) -> x.people(v, 5), 0, 2);
        edge.range("fine of town", Edge::rich, (x, v) -> x.fine(v, 5), 0, 2);
        edge.range("place of town", Edge::rich, (x, v) -> x.place(v, 5), 0, 2);
        edge.range("far to town", Edge::rich, (x, v) -> x.far(1, v), 0, 2);
        edge.range("about town", Edge::rich, (x, v) -> x.about(0, v, 0), 0, 2);
    }

    private static void hallsThatAreThere() {
        due.sentence("promises 7 to 14", "BAD: there is no such HALL");
        edge.range("price of hall", Edge::rich, (x, v) -> x.price(v, 5), 0, 3);
        edge.range("room of hall", Edge::rich, (x, v) -> x.room(v, 5), 0, 3);
        edge.range("sheet of hall", Edge::rich, (x, v) -> x.sheet(v, 1, 2), 0, 3);
        edge.range("lose of hall", Edge::rich, (x, v) -> x.lose(v), 0, 3);
        edge.range("way of hall", Edge::rich, (x, v) -> x.way(v, 0, 5), 0, 3);
        edge.range("copy from hall", Edge::rich, (x, v) -> x.copy(v, 0, 3, 0, 1), 0, 3);
        edge.range("copy to hall", Edge::rich, (x, v) -> x.copy(0, 0, v, 0, 1), 0, 3);
        edge.range("far from hall", Edge::rich, (x, v) -> x.far(v, 0), 0, 3);
        edge.range("about hall", Edge::rich, (x, v) -> x.about(1, v, 0), 0, 3);
    }

    private static void townsAndHallsOfAFullDesk() {
        due.sentence("promises 4 to 14", "BAD: there is no such TOWN or HALL, though no more can come");
        edge.range("people of town", Edge::full, (x, v) -> x.people(v, 5), 0, 7);
        edge.range("price of hall", Edge::full, (x, v) -> x.price(v, 5), 0, 6);
        edge.range("sheet of hall", Edge::full, (x, v) -> x.sheet(v, 2, 8), 0, 6);
        edge.range("far to town", Edge::full, (x, v) -> x.far(6, v), 0, 7);
        edge.range("far from hall", Edge::full, (x, v) -> x.far(v, 7), 0, 6);
    }

    // ---- promise 9: sheet

    private static void sheetWidths() {
        due.sentence("terms 1, promise 9", "Of a WIDTH: 0 bytes, 1 shorts, 2 ints. BAD: width");
        edge.range("width", Edge::rich, (x, v) -> x.sheet(0, v, 2), 0, 2);
        HallDesk x = Edge.desk(1, 1);
        for (int width = 0; width <= 2; width++) {
            x.sheet(0, width, 1);
            due.is("about(1, 0, 2)", x.about(1, 0, 2), width);
        }
    }

    private static void sheetPlaces() {
        due.sentence("promise 9", "With n places (8 at most). BAD: n above 8");
        HallDesk x = Edge.desk(8, 1);
        due.is("sheet(0, 1, 8)", x.sheet(0, 1, 8), 8);
        due.is("places", x.about(1, 0, 3), 8);
        edge.leavesAll("sheet(0, 1, 9)", Edge::rich, y -> y.sheet(0, 1, 9), BAD);
        edge.leavesAll("sheet(0, 1, HIGH)", Edge::rich, y -> y.sheet(0, 1, HIGH), BAD);
    }

    private static void sheetOfNoPlaces() {
        due.sentence("promise 9", "n: 0 places are taken, and the SHEET is not MISSING then");
        HallDesk x = Edge.desk(1, 1);
        due.is("sheet(0, 2, 0)", x.sheet(0, 2, 0), 0);
        due.is("about(1, 0, 2)", x.about(1, 0, 2), 2);
        due.is("about(1, 0, 3)", x.about(1, 0, 3), 0);
        due.is("count(3)", x.count(3), 1);
        due.is("far(0, 0)", x.far(0, 0), NO_WAY);
        due.is("way(0, 0, 0)", x.way(0, 0, 0), INDEX);
        due.is("lose(0)", x.lose(0), 0);
    }

    private static void sheetSize() {
        due.sentence("terms 6, promise 9", "SIZE: a number of places is below 0");
        edge.leavesAll("sheet(0, 1, -1)", Edge::rich, x -> x.sheet(0, 1, -1), SIZE);
        edge.leavesAll("sheet(0, 1, LOW)", Edge::rich, x -> x.sheet(0, 1, LOW), SIZE);
        edge.leavesAll("sheet(2, 1, -1) where none is yet", Edge::rich, x -> x.sheet(2, 1, -1), SIZE);
    }

    private static void sheetRefusalsInOrder() {
        due.sentence("promise 9", "BAD: hall, width, n above 8; SIZE: of several the one that stands first");
        edge.leavesAll("hall and size", Edge::rich, x -> x.sheet(4, 1, -1), BAD);
        edge.leavesAll("hall below 0 and size", Edge::rich, x -> x.sheet(-1, 1, -1), BAD);
        edge.leavesAll("width and size", Edge::rich, x -> x.sheet(0, 3, -1), BAD);
        edge.leavesAll("width below 0 and size", Edge::rich, x -> x.sheet(0, -1, -1), BAD);
    }

    private static void sheetIsNew() {
        due.sentence("promise 9", "The SHEET of a HALL is new, with n places, all 0");
        HallDesk x = Edge.desk(8, 2);
        x.sheet(0, 0, 8);
        x.sheet(1, 0, 8);
        for (int place = 0; place < 8; place++) {
            x.way(0, place, 50 + place);
            x.way(1, place, 60 + place);
        }
        due.is("sheet(0, 1, 5)", x.sheet(0, 1, 5), 5);
        for (int town = 0; town < 8; town++) {
            due.is("far(0, " + town + ")", x.far(0, town), town < 5 ? 0 : NO_WAY);
            due.is("the other hall's stays", x.far(1, town), 60 + town);
        }
    }

    // ---- promise 10: lose

    private static void loseMissing() {
        due.sentence("promise 10", "A SHEET is MISSING then: how many places it had. BAD; NOTHING.");
        HallDesk x = Edge.rich();
        due.is("lose(0)", x.lose(0), 3);
        due.is("about(1, 0, 2)", x.about(1, 0, 2), NONE);
        due.is("about(1, 0, 3)", x.about(1, 0, 3), 0);
        due.is("far(0, 0)", x.far(0, 0), NO_WAY);
        due.is("lose(0) again", x.lose(0), NOTHING);
        edge.leavesAll("lose(2), which has none", Edge::rich, y -> y.lose(2), NOTHING);
        edge.leavesAll("lose(0), which never had one", Edge::full, y -> y.lose(0), NOTHING);
        HallDesk widest = Edge.full();
        widest.sheet(6, 0, 8);
        due.is("lose(6) of 8 places", widest.lose(6), 8);
    }

    // ---- promise 11: way

    private static void wayOfBytes() {
        due.sentence("terms 1, promise 11", "0 bytes (0 .. 127). BAD: it is not one of the WIDTH.");
        edge.range("byte", Edge::rich, (x, v) -> x.way(1, 0, v), 0, 127);
    }

    private static void wayOfShorts() {
        due.sentence("terms 1, promise 11", "1 shorts (0 .. 1000). BAD: it is not one of the WIDTH.");
        edge.range("short", Edge::rich, (x, v) -> x.way(0, 0, v), 0, 1000);
    }

    private static HallDesk withInts() {
        HallDesk x = Edge.rich();
        x.sheet(2, 2, 3);
        return x;
    }

    private static void wayOfInts() {
        due.sentence("terms 1, promise 11", "2 ints (0 .. 1000). BAD: it is not one of the WIDTH.");
        edge.range("int", TownsEdgesTest::withInts, (x, v) -> x.way(2, 0, v), 0, 1000);
    }

    private static void wayPlaces() {
        due.sentence("terms 6, promise 11", "INDEX: there are no such places");
        HallDesk x = Edge.rich();
        due.is("way(0, 0, 8), the first: what it was", x.way(0, 0, 8), 7);
        due.is("way(0, 2, 8), the last: what it was", x.way(0, 2, 8), 900);
        due.is("far(0, 0)", x.far(0, 0), 8);
        due.is("far(0, 2)", x.far(0, 2), 8);
        for (int place : new int[] {-1, 3, 8, LOW, HIGH}) {
            edge.leavesAll("way(0, " + place + ", 8)", Edge::rich, y -> y.way(0, place, 8), INDEX);
        }
        HallDesk widest = Edge.full();
        widest.sheet(6, 2, 8);
        due.is("place 7 of 8", widest.way(6, 7, 1000), 0);
        due.is("place 8 of 8", widest.way(6, 8, 1000), INDEX);
        due.is("far(6, 7)", widest.far(6, 7), 1000);
    }

    private static void wayOfNothing() {
        due.sentence("terms 6, promise 11", "NOTHING: a SHEET is MISSING");
        edge.leavesAll("way(2, 0, 1)", Edge::rich, x -> x.way(2, 0, 1), NOTHING);
    }

    private static void wayRefusalsInOrder() {
        due.sentence("promise 11", "BAD: hall; NOTHING; INDEX; BAD: of several the one that stands first");
        edge.leavesAll("hall and place", Edge::rich, x -> x.way(4, -1, 1), BAD);
        edge.leavesAll("nothing and place", Edge::rich, x -> x.way(2, -1, 1), NOTHING);
        edge.leavesAll("nothing and number", Edge::rich, x -> x.way(2, 0, -1), NOTHING);
        edge.leavesAll("nothing, place and number", Edge::rich, x -> x.way(2, 9, 1001), NOTHING);
        edge.leavesAll("place and number", Edge::rich, x -> x.way(0, 3, 1001), INDEX);
        edge.leavesAll("place below 0 and number below 0", Edge::rich, x -> x.way(0, -1, -1), INDEX);
    }

    private static void wayAheadOfItsTown() {
        due.sentence("promise 11", "A place of a SHEET becomes a WAY, also where no TOWN is yet");
        HallDesk x = Edge.desk(0, 1);
        x.sheet(0, 1, 8);
        due.is("way(0, 7, 5)", x.way(0, 7, 5), 0);
        due.is("far(0, 7)", x.far(0, 7), BAD);
        for (int t = 0; t < 8; t++) {
            x.town();
        }
        due.is("far(0, 7) as it comes", x.far(0, 7), 5);
    }

    // ---- promise 12: copy

    private static void copyPlaces() {
        due.sentence("terms 6, promise 12", "INDEX: there are no such places, here or there");
        HallDesk x = Edge.rich();
        due.is("all: copy(0, 0, 3, 0, 3)", x.copy(0, 0, 3, 0, 3), 3);
        due.is("far(3, 0)", x.far(3, 0), 7);
        due.is("far(3, 2)", x.far(3, 2), 900);
        edge.leavesAll("one too many", Edge::rich, y -> y.copy(0, 0, 3, 0, 4), INDEX);
        edge.leavesAll("one too many from place 1", Edge::rich, y -> y.copy(0, 1, 3, 0, 3), INDEX);
        edge.leavesAll("one too many to place 1", Edge::rich, y -> y.copy(0, 0, 3, 1, 3), INDEX);
        edge.leavesAll("from a place below 0", Edge::rich, y -> y.copy(0, -1, 3, 0, 1), INDEX);
        edge.leavesAll("to a place below 0", Edge::rich, y -> y.copy(0, 0, 3, -1, 1), INDEX);
        edge.leavesAll("from behind the last", Edge::rich, y -> y.copy(0, 3, 3, 0, 1), INDEX);
        edge.leavesAll("to behind the last", Edge::rich, y -> y.copy(0, 0, 3, 3, 1), INDEX);
    }

    private static void copyFewerThanNone() {
        due.sentence("promise 12", "INDEX: so many places below 0 are none that are there");
        edge.leavesAll("copy(0, 0, 3, 0, -1)", Edge::rich, x -> x.copy(0, 0, 3, 0, -1), INDEX);
        edge.leavesAll("copy(0, 1, 3, 1, -1)", Edge::rich, x -> x.copy(0, 1, 3, 1, -1), INDEX);
        edge.leavesAll("copy(0, 0, 3, 0, LOW)", Edge::rich, x -> x.copy(0, 0, 3, 0, LOW), INDEX);
    }

    private static void copyWrapsNowhere() {
        due.sentence("promise 12", "INDEX: a place and many that go beyond all numbers together");
        int[][] far = {{HIGH, 0, 1}, {0, HIGH, 1}, {HIGH, HIGH, HIGH}, {1, 1, HIGH}, {1, 0, HIGH}, {0, 1, HIGH},
            {LOW, 0, LOW}, {0, LOW, LOW}, {LOW, LOW, LOW}, {LOW, 0, HIGH}, {HIGH, 0, LOW}, {HIGH, HIGH, 0}};
        for (int[] f : far) {
            String told = "copy(0, " + f[0] + ", 3, " + f[1] + ", " + f[2] + ")";
            edge.leavesAll(told, Edge::rich, x -> x.copy(0, f[0], 3, f[1], f[2]), INDEX);
        }
    }

    private static void copyNone() {
        due.sentence("promise 12", "So many places: none, up to the end of both");
        HallDesk x = Edge.rich();
        due.is("copy(0, 0, 3, 0, 0)", x.copy(0, 0, 3, 0, 0), 0);
        due.is("copy(0, 3, 3, 3, 0)", x.copy(0, 3, 3, 3, 0), 0);
        edge.leavesAll("copy(0, 4, 3, 0, 0)", Edge::rich, y -> y.copy(0, 4, 3, 0, 0), INDEX);
        edge.leavesAll("copy(0, 0, 3, 4, 0)", Edge::rich, y -> y.copy(0, 0, 3, 4, 0), INDEX);
        edge.leavesAll("copy(0, -1, 3, 0, 0)", Edge::rich, y -> y.copy(0, -1, 3, 0, 0), INDEX);
        edge.leavesAll("copy(0, 0, 3, -1, 0)", Edge::rich, y -> y.copy(0, 0, 3, -1, 0), INDEX);
    }

    private static void copyOfNothing() {
        due.sentence("promise 12", "NOTHING: one is MISSING");
        edge.leavesAll("from it", Edge::rich, x -> x.copy(2, 0, 0, 0, 1), NOTHING);
        edge.leavesAll("to it", Edge::rich, x -> x.copy(0, 0, 2, 0, 1), NOTHING);
        edge.leavesAll("from it to itself, none", Edge::rich, x -> x.copy(2, 0, 2, 0, 0), NOTHING);
    }

    private static void copyOfUnlikeWidths() {
        due.sentence("promise 12", "NO: unlike WIDTHS");
        edge.leavesAll("shorts to bytes", Edge::rich, x -> x.copy(0, 0, 1, 0, 1), NO);
        edge.leavesAll("bytes to shorts", Edge::rich, x -> x.copy(1, 0, 0, 0, 1), NO);
        edge.leavesAll("shorts to ints", TownsEdgesTest::withInts, x -> x.copy(0, 0, 2, 0, 1), NO);
        edge.leavesAll("ints to shorts, none", TownsEdgesTest::withInts, x -> x.copy(2, 0, 0, 0, 0), NO);
    }

    private static void copyRefusalsInOrder() {
        due.sentence("promise 12", "BAD: halls; NOTHING; NO; INDEX: of several the one that stands first");
        edge.leavesAll("a hall and nothing", Edge::rich, x -> x.copy(4, 0, 2, 0, 1), BAD);
        edge.leavesAll("nothing and a hall", Edge::rich, x -> x.copy(2, 0, 4, 0, 1), BAD);
        edge.leavesAll("a hall and places", Edge::rich, x -> x.copy(-1, -1, 0, 9, 1), BAD);
        edge.leavesAll("nothing and places", Edge::rich, x -> x.copy(2, -1, 0, 0, 1), NOTHING);
        edge.leavesAll("places and nothing", Edge::rich, x -> x.copy(0, 9, 2, 0, 1), NOTHING);
        edge.leavesAll("widths and places", Edge::rich, x -> x.copy(0, 9, 1, 0, 1), NO);
        edge.leavesAll("widths and places there", Edge::rich, x -> x.copy(0, 0, 1, 2, 1), NO);
        edge.leavesAll("widths and many below 0", Edge::rich, x -> x.copy(0, 0, 1, 0, -1), NO);
    }

    private static HallDesk eightWays() {
        HallDesk x = Edge.desk(8, 1);
        x.sheet(0, 1, 8);
        for (int place = 0; place < 8; place++) {
            x.way(0, place, 10 + place);
        }
        return x;
    }

    private static void copyAsTheyWere() {
        due.sentence("promise 12", "Or the same one: as they were");
        HallDesk up = eightWays();
        due.is("upward by one", up.copy(0, 0, 0, 1, 7), 7);
        HallDesk down = eightWays();
        due.is("downward by one", down.copy(0, 1, 0, 0, 7), 7);
        HallDesk same = eightWays();
        due.is("onto its own place", same.copy(0, 0, 0, 0, 8), 8);
        for (int t = 0; t < 8; t++) {
            due.is("upward: far(0, " + t + ")", up.far(0, t), t == 0 ? 10 : 10 + t - 1);
            due.is("downward: far(0, " + t + ")", down.far(0, t), t == 7 ? 17 : 10 + t + 1);
            due.is("alike: far(0, " + t + ")", same.far(0, t), 10 + t);
        }
    }

    private static void copyTouchesNoOther() {
        due.sentence("promise 12", "So many places, from one place on, are those of another SHEET, and no other place");
        HallDesk x = Edge.desk(8, 7);
        for (int h = 0; h < 7; h++) {
            x.sheet(h, 1, 8);
            for (int t = 0; t < 8; t++) {
                x.way(h, t, 100 * h + t);
            }
        }
        due.is("copy(2, 5, 4, 1, 3)", x.copy(2, 5, 4, 1, 3), 3);
        for (int h = 0; h < 7; h++) {
            for (int t = 0; t < 8; t++) {
                boolean copied = h == 4 && t >= 1 && t <= 3;
                due.is("far(" + h + ", " + t + ")", x.far(h, t), copied ? 200 + t + 4 : 100 * h + t);
            }
        }
    }

    // ---- promise 13: far

    private static void farUnreached() {
        due.sentence("terms 1, promise 13", "It is MISSING, or has not so many places: 1000000");
        HallDesk x = Edge.desk(3, 1);
        due.is("missing", x.far(0, 0), NO_WAY);
        x.sheet(0, 1, 2);
        due.is("the last place", x.far(0, 1), 0);
        due.is("not so many places", x.far(0, 2), NO_WAY);
        x.lose(0);
        due.is("missing again", x.far(0, 0), NO_WAY);
    }

    private static HallDesk unreached() {
        HallDesk x = Edge.withPeople(Edge.desk(2, 2), 1, 3);
        x.sheet(0, 1, 1);
        x.fine(0, 100000);
        x.fine(1, 100000);
        return x;
    }

    private static void unreachedInCosts() {
        due.sentence("terms 1", "Has no WAY to that HALL: it is 1000000 then, in all COSTS");
        HallDesk x = Edge.inHand(unreached(), 1);
        due.is("SUM", x.cost(0), 3 * NO_WAY);
        due.is("MOST", x.cost(1), NO_WAY);
        due.is("PRICED", x.cost(2), 3 * NO_WAY);
        due.is("ROOMED", x.cost(3), 3 * NO_WAY);
        due.is("FINED", x.cost(4), 100000);
        due.is("RIVAL: 1000000 is not less than 1000000", x.cost(6), 0);
        x.open(3);
        due.is("CLOSED", x.cost(5), 4 * NO_WAY);
        due.is("goes(0, 1): of two ways of 1000000 the least hall", x.goes(0, 1), 0);
        x.open(2);
        due.is("RIVAL: who has a way", x.cost(6), 1);
        due.is("goes(0, 1)", x.goes(0, 1), 1);
    }

    private static void unreachedInClaims() {
        due.sentence("terms 1", "Has no WAY to that HALL: it is 1000000 then, for CLAIMS and SHARES");
        HallDesk x = Edge.withClaims(unreached(), 0, 1000000);
        due.is("holds()", x.holds(), 1000000);
        due.is("share(0, 0)", x.share(0, 0), 0);
        due.is("share(1, 0)", x.share(1, 0), 3 * NO_WAY);
        x.people(1, 1);
        due.is("1000000 is not above 1000000: holds()", x.holds(), 1000000);
        due.is("fair()", x.fair(), 0);
    }

    // ---- promise 14: about

    private static void aboutOf() {
        due.sentence("promise 14", "Of a TOWN (of 0), of a HALL (of 1). BAD.");
        edge.range("about", Edge::rich, (x, v) -> x.about(v, 0, 0), 0, 1);
    }

    private static void aboutTown() {
        due.sentence("promise 14", "Of a TOWN: what 0 PEOPLE, 1 FINE, 2 PLACE and 1000. BAD.");
        edge.range("about a town", Edge::rich, (x, v) -> x.about(0, 0, v), 0, 2);
        HallDesk x = Edge.rich();
        due.is("PEOPLE", x.about(0, 0, 0), 4);
        due.is("FINE", x.about(0, 0, 1), 11);
        due.is("PLACE and 1000", x.about(0, 0, 2), 991);
    }

    private static void aboutHall() {
        due.sentence("promise 14", "Of a HALL: 0 PRICE, 1 ROOM, 2 WIDTH (NONE: MISSING), 3 places. BAD.");
        edge.range("about a hall", Edge::rich, (x, v) -> x.about(1, 0, v), 0, 3);
        HallDesk x = Edge.rich();
        due.is("PRICE", x.about(1, 1, 0), 6);
        due.is("ROOM", x.about(1, 0, 1), 24);
        due.is("WIDTH", x.about(1, 1, 2), 0);
        due.is("places", x.about(1, 1, 3), 2);
        due.is("WIDTH of a missing one", x.about(1, 2, 2), NONE);
        due.is("places of a missing one", x.about(1, 2, 3), 0);
    }

    private static void aboutOneOfTheOther() {
        due.sentence("promise 14", "BAD: a TOWN's number that is no HALL's, a HALL's that is no TOWN's");
        HallDesk towns = Edge.desk(8, 1);
        due.is("about(0, 7, 0)", towns.about(0, 7, 0), 1);
        due.is("about(1, 7, 0)", towns.about(1, 7, 0), BAD);
        due.is("about(1, 1, 0)", towns.about(1, 1, 0), BAD);
        HallDesk halls = Edge.desk(1, 7);
        due.is("about(1, 6, 1)", halls.about(1, 6, 1), 200);
        due.is("about(0, 6, 1)", halls.about(0, 6, 1), BAD);
        due.is("about(0, 0, 3), which only a hall has", halls.about(0, 0, 3), BAD);
    }

    private static void promisesOneToEight() {
        nothingToChange();
        nothingToSee();
        onlyTheEmptySet();
        eightTowns();
        roomForATownAgain();
        sevenHalls();
        roomForAHallAgain();
        townAtFirst();
        newTownIsNew();
        hallAtFirst();
        peopleRange();
        fineRange();
        placeRange();
        priceRange();
        roomRange();
        townsThatAreThere();
        hallsThatAreThere();
        townsAndHallsOfAFullDesk();
    }

    private static void sheets() {
        sheetWidths();
        sheetPlaces();
        sheetOfNoPlaces();
        sheetSize();
        sheetRefusalsInOrder();
        sheetIsNew();
        loseMissing();
        wayOfBytes();
        wayOfShorts();
        wayOfInts();
        wayPlaces();
        wayOfNothing();
        wayRefusalsInOrder();
        wayAheadOfItsTown();
    }

    private static void copies() {
        copyPlaces();
        copyFewerThanNone();
        copyWrapsNowhere();
        copyNone();
        copyOfNothing();
        copyOfUnlikeWidths();
        copyRefusalsInOrder();
        copyAsTheyWere();
        copyTouchesNoOther();
    }

    private static void looks() {
        farUnreached();
        unreachedInCosts();
        unreachedInClaims();
        aboutOf();
        aboutTown();
        aboutHall();
        aboutOneOfTheOther();
    }

    public static void main(String[] args) {
        promisesOneToEight();
        sheets();
        copies();
        looks();
        due.end("TownsEdgesTest");
    }
}
