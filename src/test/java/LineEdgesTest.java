/** The boundary cases of the terms' section 4 and of promises 32 to 34, a test for each sentence that names one. */
public final class LineEdgesTest {
    private static final int NONE = Edge.NONE, BAD = Edge.BAD, HIGH = Edge.HIGH, LOW = Edge.LOW;
    private static final Due due = new Due();
    private static final Edge edge = new Edge(due);

    private static void choice(HallDesk x, int kind, int k, int... places) {
        for (int i = 0; i < places.length; i++) {
            due.is("lineAt(" + kind + ", " + k + ", " + i + ")", x.lineAt(kind, k, i), places[i] + 1000);
        }
        due.is("lineAt(" + kind + ", " + k + ", " + places.length + ")", x.lineAt(kind, k, places.length), NONE);
    }

    // ---- promise 32: line

    private static void lineRanges() {
        due.sentence("promise 32", "The least SUM (kind 0) or MOST (1) of k (1 .. 8) halls. BAD");
        edge.range("kind of line", Edge::rich, (x, v) -> x.line(v, 1), 0, 1);
        edge.range("k of line", Edge::rich, (x, v) -> x.line(0, v), 1, 8);
    }

    private static void lineWithoutTowns() {
        due.sentence("promise 32", "NONE: there are no TOWNS; BAD stands ahead of it");
        for (HallDesk x : new HallDesk[] {new HallDesk(), Edge.desk(0, 7)}) {
            for (int k = 1; k <= 8; k++) {
                due.is("line(0, " + k + ")", x.line(0, k), NONE);
                due.is("line(1, " + k + ")", x.line(1, k), NONE);
            }
            due.is("line(2, 1)", x.line(2, 1), BAD);
            due.is("line(-1, 1)", x.line(-1, 1), BAD);
            due.is("line(0, 0)", x.line(0, 0), BAD);
            due.is("line(0, 9)", x.line(0, 9), BAD);
        }
    }

    private static void lineWithoutHalls() {
        due.sentence("terms 4", "k halls are at PLACES of TOWNS (any): the HALLS that are there do not count");
        HallDesk x = Edge.withPlaces(0, 10);
        due.is("line(0, 1)", x.line(0, 1), 10);
        x.hall();
        x.sheet(0, 1, 2);
        due.is("line(0, 1) with a hall", x.line(0, 1), 10);
    }

    private static void lineOfOneTown() {
        due.sentence("terms 4", "TOWNS lie at their PLACES: one TOWN, or all at one PLACE");
        for (HallDesk x : new HallDesk[] {Edge.withPlaces(-1000), Edge.withPlaces(7, 7, 7, 7, 7, 7, 7, 7), Edge.full()}) {
            for (int kind = 0; kind <= 1; kind++) {
                due.is("line(" + kind + ", 1)", x.line(kind, 1), 0);
                due.is("line(" + kind + ", 8)", x.line(kind, 8), 0);
                choice(x, kind, 1, x.about(0, 0, 2) - 1000);
                choice(x, kind, 8, x.about(0, 0, 2) - 1000);
            }
        }
    }

    private static void lineOfTheWidest() {
        due.sentence("terms 4", "The least SUM, or MOST, the greatest that it can be");
        HallDesk x = Edge.withPlaces(-1000, 1000, -1000, 1000, -1000, 1000, -1000, 1000);
        for (int t = 0; t < 8; t++) {
            x.people(t, 20);
        }
        due.is("line(0, 1)", x.line(0, 1), 160000);
        due.is("line(1, 1)", x.line(1, 1), 2000);
        due.is("line(0, 2)", x.line(0, 2), 0);
        due.is("line(1, 2)", x.line(1, 2), 0);
        choice(x, 0, 1, -1000);
        choice(x, 1, 1, -1000);
        choice(x, 1, 2, -1000, 1000);
    }

    private static void lineOfAllSizes() {
        due.sentence("promise 32", "Of k (1 .. 8) halls, each k");
        HallDesk x = Edge.withPlaces(128, 64, 32, 16, 8, 4, 2, 1);
        // The greatest towns have halls of their own; the one that is left is at 8 (k 1, 2), 4 (k 3, 4), 2 for the
        // sum, and for the most at the greatest but one of the others.
        int[] sums = {0, 225, 105, 49, 21, 9, 3, 1, 0};
        int[] mosts = {0, 64, 32, 16, 8, 4, 2, 1, 0};
        for (int k = 1; k <= 8; k++) {
            due.is("line(0, " + k + ")", x.line(0, k), sums[k]);
            due.is("line(1, " + k + ")", x.line(1, k), mosts[k]);
            due.isTrue("lineAt(0, " + k + ", " + (k - 1) + ") is there", x.lineAt(0, k, k - 1) > 0);
            due.is("lineAt(0, " + k + ", " + k + ")", x.lineAt(0, k, k), NONE);
        }
    }

    private static void linePeople() {
        due.sentence("terms 4", "SUM (PEOPLE times how far it is to the nearest), or MOST");
        HallDesk x = Edge.withPeople(Edge.withPlaces(0, 10), 1, 20);
        due.is("line(0, 1)", x.line(0, 1), 10);
        choice(x, 0, 1, 10);
        due.is("line(1, 1)", x.line(1, 1), 10);
        choice(x, 1, 1, 0);
    }

    // ---- promise 33: lineAt

    private static void lineAtRanges() {
        due.sentence("promise 33", "BAD: kind, k, i is below 0");
        edge.range("kind of lineAt", Edge::rich, (x, v) -> x.lineAt(v, 1, 0), 0, 1);
        edge.range("k of lineAt", Edge::rich, (x, v) -> x.lineAt(0, v, 0), 1, 8);
        edge.leavesAll("lineAt(0, 1, -1)", Edge::rich, x -> x.lineAt(0, 1, -1), BAD);
        edge.leavesAll("lineAt(0, 1, LOW)", Edge::rich, x -> x.lineAt(0, 1, LOW), BAD);
    }

    private static void lineAtNotSoMany() {
        due.sentence("promise 33", "NONE: there are not so many");
        HallDesk x = Edge.withPlaces(5, -5, 20);
        choice(x, 0, 1, 5);
        choice(x, 0, 2, -5, 20);
        choice(x, 0, 3, -5, 5, 20);
        due.is("lineAt(0, 2, HIGH)", x.lineAt(0, 2, HIGH), NONE);
        due.is("lineAt(0, 8, 7)", x.lineAt(0, 8, 7), NONE);
    }

    private static void lineAtWithoutTowns() {
        due.sentence("promise 33", "NONE: there are not so many, as there are no TOWNS; BAD stands ahead of it");
        HallDesk x = new HallDesk();
        due.is("lineAt(0, 1, 0)", x.lineAt(0, 1, 0), NONE);
        due.is("lineAt(1, 8, 0)", x.lineAt(1, 8, 0), NONE);
        due.is("lineAt(2, 1, 0)", x.lineAt(2, 1, 0), BAD);
        due.is("lineAt(-1, 1, 0)", x.lineAt(-1, 1, 0), BAD);
        due.is("lineAt(0, 0, 0)", x.lineAt(0, 0, 0), BAD);
        due.is("lineAt(0, 9, 0)", x.lineAt(0, 9, 0), BAD);
        due.is("lineAt(0, 1, -1)", x.lineAt(0, 1, -1), BAD);
    }

    private static void lineAfterTownsWent() {
        due.sentence("promise 33", "NONE: there are not so many, as TOWNS were taken back");
        HallDesk x = Edge.withPlaces(5);
        choice(x, 0, 1, 5);
        Edge.undone(x, 2);
        due.is("line(0, 1)", x.line(0, 1), NONE);
        due.is("lineAt(0, 1, 0)", x.lineAt(0, 1, 0), NONE);
    }

    private static void fewerPlacesThanHalls() {
        due.sentence("terms 4", "With fewer PLACES than k all of them");
        HallDesk x = Edge.withPlaces(3, -3, 3, 9, -3);
        for (int kind = 0; kind <= 1; kind++) {
            for (int k = 3; k <= 8; k++) {
                due.is("line(" + kind + ", " + k + ")", x.line(kind, k), 0);
                choice(x, kind, k, -3, 3, 9);
            }
        }
        due.is("one hall too few", x.line(0, 2), 6);
        choice(x, 0, 2, -3, 3);
    }

    private static void unlikePlaces() {
        due.sentence("terms 4", "Of those k unlike PLACES that have it: as many as k, though fewer would do");
        HallDesk x = Edge.withPlaces(0, 2, 4, 10);
        due.is("line(1, 2)", x.line(1, 2), 2);
        choice(x, 1, 2, 2, 10);
        due.is("a third does not help: line(1, 3)", x.line(1, 3), 2);
        choice(x, 1, 3, 0, 2, 10);
    }

    private static void firstOfSeveral() {
        due.sentence("terms 4", "The first ones (compared one by one, the lesser first)");
        HallDesk x = Edge.withPlaces(4, 3, 2, 1, 0);
        choice(x, 0, 1, 2);
        choice(x, 0, 2, 0, 3);
        choice(x, 0, 3, 0, 1, 3);
        choice(x, 0, 4, 0, 1, 2, 3);
        choice(x, 1, 3, 0, 1, 3);
        choice(x, 1, 4, 0, 1, 2, 3);
        HallDesk two = Edge.withPlaces(8, -8);
        choice(two, 0, 1, -8);
        choice(two, 1, 1, -8);
    }

    private static void risingOrder() {
        due.sentence("terms 4", "The choice told: the PLACES in rising order");
        choice(Edge.withPlaces(1000, 0, -1000, 500, -500, 1, -1, 999), 0, 8, -1000, -500, -1, 0, 1, 500, 999, 1000);
    }

    // ---- promise 34: count

    private static void countRange() {
        due.sentence("promise 34", "What 0 TOWNS .. 6 CLAIMS together. BAD.");
        edge.range("count", Edge::rich, (x, v) -> x.count(v), 0, 6);
    }

    private static HallDesk fullest() {
        HallDesk x = Edge.inHand(Edge.full(), 127);
        for (int t = 0; t < 8; t++) {
            x.people(t, 20);
            x.claim(t, 1000000);
        }
        for (int h = 0; h < 7; h++) {
            x.sheet(h, h % 3, h);
        }
        return x;
    }

    private static void countFullAndEmpty() {
        due.sentence("promise 34", "TOWNS, HALLS, PEOPLE in all, SHEETS, HALLS IN HAND, changes, CLAIMS: none, and the most");
        int[] most = {8, 7, 160, 7, 7, 8, 8000000};
        HallDesk empty = new HallDesk();
        HallDesk full = fullest();
        for (int what = 0; what <= 6; what++) {
            due.is("none: count(" + what + ")", empty.count(what), 0);
            due.is("the most: count(" + what + ")", full.count(what), most[what]);
        }
    }

    private static void countSheets() {
        due.sentence("promise 34", "SHEETS that are not MISSING: one of no places is not");
        HallDesk x = Edge.desk(1, 3);
        due.is("all are missing", x.count(3), 0);
        x.sheet(1, 0, 0);
        due.is("one of no places", x.count(3), 1);
        x.sheet(1, 2, 4);
        due.is("the same hall's anew", x.count(3), 1);
        x.sheet(2, 2, 4);
        due.is("another hall's", x.count(3), 2);
        x.lose(1);
        due.is("one is lost", x.count(3), 1);
        x.undo();
        due.is("and back", x.count(3), 2);
    }

    public static void main(String[] args) {
        lineRanges();
        lineWithoutTowns();
        lineWithoutHalls();
        lineOfOneTown();
        lineOfTheWidest();
        lineOfAllSizes();
        linePeople();
        lineAtRanges();
        lineAtNotSoMany();
        lineAtWithoutTowns();
        lineAfterTownsWent();
        fewerPlacesThanHalls();
        unlikePlaces();
        firstOfSeveral();
        risingOrder();
        countRange();
        countFullAndEmpty();
        countSheets();
        due.end("LineEdgesTest");
    }
}
