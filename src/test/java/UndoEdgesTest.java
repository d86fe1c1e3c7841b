/** The boundary cases of promise 15 and of the terms' section 6, a test for each sentence that names one. */
public final class UndoEdgesTest {
    private static final int BAD = Edge.BAD, NO = Edge.NO;
    private static final Due due = new Due();
    private static final Edge edge = new Edge(due);

    // ---- nothing to take back

    private static void noneYet() {
        due.sentence("promise 15", "NO: none, as there was no change yet");
        edge.leavesAll("undo()", HallDesk::new, x -> x.undo(), NO);
    }

    private static HallDesk allTakenBack() {
        return Edge.undone(Edge.rich(), 8);
    }

    private static void noneAnyMore() {
        due.sentence("promise 15", "NO: none, as all that were kept are taken back");
        HallDesk x = Edge.desk(1, 0);
        due.is("undo()", x.undo(), 0);
        due.is("undo() again", x.undo(), NO);
        edge.leavesAll("undo() of what is kept no more", UndoEdgesTest::allTakenBack, y -> y.undo(), NO);
    }

    private static HallDesk onlyOthers() {
        HallDesk x = Edge.undone(Edge.desk(0, 0), 1);
        x.open(0);
        x.best(0, -1, 0);
        x.better(0, 5);
        return x;
    }

    private static void noneButOthers() {
        due.sentence("promise 15", "NO: none, as only calls were made that are no changes");
        edge.leavesAll("undo()", UndoEdgesTest::onlyOthers, x -> x.undo(), NO);
    }

    // ---- the latest 8 are kept

    /** So many changes, with a refused call between any two. */
    private static HallDesk changed(int times) {
        HallDesk x = new HallDesk();
        for (int i = 0; i < times; i++) {
            if (i == 0) {
                x.town();
            } else {
                x.price(0, i);
                x.place(0, i);
            }
        }
        return x;
    }

    private static void countsUpToEight() {
        due.sentence("terms 6", "The latest 8 are kept");
        for (int times = 0; times <= 20; times++) {
            HallDesk x = changed(times);
            int kept = Math.min(8, times);
            due.is("count(5) after " + times, x.count(5), kept);
            for (int left = kept - 1; left >= 0; left--) {
                due.is("undo() after " + times, x.undo(), left);
                due.is("count(5)", x.count(5), left);
            }
            due.is("undo() of none after " + times, x.undo(), NO);
        }
    }

    private static void backOneByOne() {
        due.sentence("promise 15", "The latest change that is kept is taken back");
        for (int times = 1; times <= 30; times++) {
            for (int back = 0; back <= 9; back++) {
                int stay = times - Math.min(back, Math.min(8, times));
                HallDesk x = Edge.undone(changed(times), back);
                String told = times + " changes, " + back + " back";
                due.is(told + ": towns", x.count(0), stay == 0 ? 0 : 1);
                due.is(told + ": place", x.about(0, 0, 2), stay == 0 ? BAD : 1000 + stay - 1);
            }
        }
    }

    private static void eightIsNotTheNinth() {
        due.sentence("promise 15", "Of nine changes the first is kept no more");
        HallDesk x = Edge.desk(8, 0);
        due.is("eight towns: count(5)", x.count(5), 8);
        x.people(7, 2);
        for (int left = 7; left >= 0; left--) {
            due.is("undo()", x.undo(), left);
        }
        due.is("the first town stays", x.count(0), 1);
        due.is("undo()", x.undo(), NO);
        due.is("and stays still", x.count(0), 1);
    }

    private static void forthAgain() {
        due.sentence("promise 15", "How many are kept still, as changes follow upon undo()");
        HallDesk x = changed(12);
        Edge.undone(x, 5);
        due.is("three are kept", x.count(5), 3);
        for (int i = 1; i <= 7; i++) {
            x.place(0, 100 + i);
            due.is("count(5) after " + i, x.count(5), Math.min(8, 3 + i));
        }
        for (int i = 6; i >= 1; i--) {
            x.undo();
            due.is("place", x.about(0, 0, 2), 1100 + i);
        }
        due.is("undo()", x.undo(), 1);
        due.is("the place ahead of them", x.about(0, 0, 2), 1006);
        due.is("undo()", x.undo(), 0);
        due.is("the place ahead of that", x.about(0, 0, 2), 1005);
        due.is("undo()", x.undo(), NO);
    }

    private static void undoIsNotUndone() {
        due.sentence("terms 6", "CHANGES are the calls of town .. copy: undo is none, and is not taken back");
        HallDesk x = Edge.desk(1, 0);
        x.place(0, 1);
        x.place(0, 2);
        x.undo();
        due.is("place", x.about(0, 0, 2), 1001);
        x.undo();
        due.is("place", x.about(0, 0, 2), 1000);
        due.is("count(5)", x.count(5), 1);
    }

    // ---- which calls are changes

    private static HallDesk small() {
        HallDesk x = Edge.desk(1, 2);
        x.sheet(0, 1, 1);
        x.sheet(1, 1, 1);
        return x;
    }

    private static void eachChange() {
        due.sentence("terms 6", "CHANGES are the calls of town, hall, people, fine, place, price, room, .. not refused");
        for (Edge.Maker maker : new Edge.Maker[] {UndoEdgesTest::small, Edge::rich}) {
            edge.isChange("town()", maker, x -> x.town());
            edge.isChange("hall()", maker, x -> x.hall());
            edge.isChange("people(0, 9)", maker, x -> x.people(0, 9));
            edge.isChange("fine(0, 9)", maker, x -> x.fine(0, 9));
            edge.isChange("place(0, 9)", maker, x -> x.place(0, 9));
            edge.isChange("price(0, 99)", maker, x -> x.price(0, 99));
            edge.isChange("room(0, 2)", maker, x -> x.room(0, 2));
        }
    }

    private static void eachChangeOfSheets() {
        due.sentence("terms 6", "CHANGES are the calls of sheet, lose, way, copy that are not refused");
        for (Edge.Maker maker : new Edge.Maker[] {UndoEdgesTest::small, Edge::rich}) {
            edge.isChange("sheet(0, 0, 1)", maker, x -> x.sheet(0, 0, 1));
            edge.isChange("sheet(0, 1, 0)", maker, x -> x.sheet(0, 1, 0));
            edge.isChange("lose(0)", maker, x -> x.lose(0));
            edge.isChange("way(0, 0, 9)", maker, x -> x.way(0, 0, 9));
        }
        edge.isChange("copy(0, 0, 3, 0, 3)", Edge::rich, x -> x.copy(0, 0, 3, 0, 3));
        edge.isChange("copy(0, 0, 1, 0, 1)", UndoEdgesTest::small, x -> x.copy(0, 0, 1, 0, 1));
    }

    private static void changesThatAlterNothing() {
        due.sentence("terms 6", "CHANGES are calls that are not refused: also those after which all is as before");
        edge.isChange("people(0, 1)", UndoEdgesTest::small, x -> x.people(0, 1));
        edge.isChange("fine(0, 0)", UndoEdgesTest::small, x -> x.fine(0, 0));
        edge.isChange("place(0, 0)", UndoEdgesTest::small, x -> x.place(0, 0));
        edge.isChange("price(0, 0)", UndoEdgesTest::small, x -> x.price(0, 0));
        edge.isChange("room(0, 200)", UndoEdgesTest::small, x -> x.room(0, 200));
        edge.isChange("sheet(0, 1, 1)", UndoEdgesTest::small, x -> x.sheet(0, 1, 1));
        edge.isChange("way(0, 0, 0)", UndoEdgesTest::small, x -> x.way(0, 0, 0));
        edge.isChange("copy(0, 1, 1, 1, 0)", UndoEdgesTest::small, x -> x.copy(0, 1, 1, 1, 0));
        edge.isChange("copy(0, 0, 0, 0, 1)", UndoEdgesTest::small, x -> x.copy(0, 0, 0, 0, 1));
    }

    private static void callsThatAreNone() {
        due.sentence("terms 6", "CHANGES are the calls of town .. copy: no others are kept");
        HallDesk x = small();
        int kept = x.count(5);
        x.open(3);
        x.best(2, -1, 0);
        x.better(4, 60);
        x.claim(0, 7);
        x.raise();
        due.is("count(5)", x.count(5), kept);
        due.is("undo() takes the sheet back", x.undo(), kept - 1);
        due.is("width of hall 1", x.about(1, 1, 2), Edge.NONE);
    }

    // ---- what undo() does not take back

    private static void handStays() {
        due.sentence("terms 6", "undo() takes back .. not what is IN HAND");
        HallDesk x = small();
        x.open(3);
        x.price(0, 4);
        x.open(2);
        x.undo();
        due.is("opened()", x.opened(), 2);
        x.undo();
        due.is("opened() after a sheet went back", x.opened(), 2);
    }

    private static void lostHallIsNotInHand() {
        due.sentence("terms 6", "IN HAND is a SET (a HALL that is no more is not in it)");
        HallDesk x = Edge.inHand(Edge.desk(0, 7), 127);
        for (int halls = 6; halls >= 0; halls--) {
            x.undo();
            due.is("opened() with " + halls + " halls", x.opened(), (1 << halls) - 1);
            due.is("count(4)", x.count(4), halls);
        }
        for (int h = 0; h < 7; h++) {
            x.hall();
        }
        due.is("nor is it as halls come again", x.opened(), 0);
    }

    private static void onlyTheLostHall() {
        due.sentence("terms 6", "A HALL that is no more is not in it: the others stay");
        HallDesk x = Edge.inHand(Edge.desk(0, 7), 82);
        x.undo();
        due.is("opened()", x.opened(), 18);
        x.hall();
        due.is("opened() with a new hall", x.opened(), 18);
    }

    private static void handIsEmptyAtFirst() {
        due.sentence("terms 6", "IN HAND is a SET (empty at first)");
        due.is("opened() without halls", new HallDesk().opened(), 0);
        due.is("opened() with halls", Edge.full().opened(), 0);
    }

    private static void claimsStay() {
        due.sentence("terms 6", "undo() takes back .. not CLAIMS");
        HallDesk x = small();
        x.town();
        x.claim(0, 7);
        x.fine(0, 1);
        x.claim(0, 8);
        x.claim(1, 9);
        x.undo();
        due.is("claimed(0)", x.claimed(0), 8);
        due.is("claimed(1)", x.claimed(1), 9);
    }

    private static void lostTownsClaimIsNone() {
        due.sentence("terms 6", "Those of TOWNS that are no more are 0");
        HallDesk x = Edge.withClaims(Edge.desk(8, 0), 1, 2, 4, 8, 16, 32, 64, 128);
        due.is("count(6)", x.count(6), 255);
        for (int towns = 7; towns >= 0; towns--) {
            x.undo();
            due.is("count(6) with " + towns + " towns", x.count(6), (1 << towns) - 1);
            due.is("holds()", x.holds(), (1 << towns) - 1);
        }
        for (int t = 0; t < 8; t++) {
            x.town();
            due.is("claimed(" + t + ") as towns come again", x.claimed(t), 0);
        }
    }

    private static void answersFollow() {
        due.sentence("promise 15", "The latest change that is kept is taken back: all answers are those ahead of it");
        for (int back = 0; back <= 8; back++) {
            HallDesk asked = Edge.rich();
            // Asked ahead of undo(), so that an answer that was worked out then would be seen if it stayed.
            asked.least(3, -1);
            asked.fair();
            asked.goes(3, 0);
            asked.share(0, 0);
            asked.line(0, 2);
            Edge.undone(asked, back);
            edge.alike(back + " back", asked, Edge.undone(Edge.rich(), back));
        }
    }

    // ---- the calls of one object

    private static void fiveHundredTwelveCalls() {
        due.sentence("what it is", "An object is used for at most 512 calls after it has been made");
        HallDesk x = Edge.desk(1, 0);
        for (int call = 2; call <= 509; call++) {
            due.is("call " + call + ", place(0, ..)", x.place(0, call), 0);
        }
        due.is("call 510, count(5)", x.count(5), 8);
        due.is("call 511, undo()", x.undo(), 7);
        due.is("call 512, about(0, 0, 2)", x.about(0, 0, 2), 1508);
    }

    public static void main(String[] args) {
        noneYet();
        noneAnyMore();
        noneButOthers();
        countsUpToEight();
        backOneByOne();
        eightIsNotTheNinth();
        forthAgain();
        undoIsNotUndone();
        eachChange();
        eachChangeOfSheets();
        changesThatAlterNothing();
        callsThatAreNone();
        handStays();
        lostHallIsNotInHand();
        onlyTheLostHall();
        handIsEmptyAtFirst();
        claimsStay();
        lostTownsClaimIsNone();
        answersFollow();
        fiveHundredTwelveCalls();
        due.end("UndoEdgesTest");
    }
}
