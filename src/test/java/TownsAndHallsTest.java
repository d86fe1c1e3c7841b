/** Promises 1 to 15: a new object, towns, halls, sheets, undo. */
public final class TownsAndHallsTest {
    private static final int NONE = HallDesk.NONE, BAD = HallDesk.BAD, NO = HallDesk.NO, FULL = HallDesk.FULL,
            NOTHING = HallDesk.NOTHING, INDEX = HallDesk.INDEX, SIZE = HallDesk.SIZE;
    private static final int HIGH = Integer.MAX_VALUE, LOW = Integer.MIN_VALUE;
    private static final Due due = new Due();

    private static HallDesk desk(int towns, int halls) {
        HallDesk x = new HallDesk();
        for (int i = 0; i < towns; i++) {
            x.town();
        }
        for (int i = 0; i < halls; i++) {
            x.hall();
        }
        return x;
    }

    private static void newObject() {
        due.promise(1);
        HallDesk x = new HallDesk();
        for (int what = 0; what <= 6; what++) {
            due.is("count(" + what + ")", x.count(what), 0);
        }
        due.is("opened()", x.opened(), 0);
        due.is("undo()", x.undo(), NO);
        due.is("people(0, 1)", x.people(0, 1), BAD);
        due.is("price(0, 1)", x.price(0, 1), BAD);
        for (int kind = 0; kind <= 4; kind++) {
            due.is("cost(" + kind + ")", x.cost(kind), 0);
        }
        HallDesk other = new HallDesk();
        other.town();
        due.is("another's towns", x.count(0), 0);
    }

    private static void town() {
        due.promise(2);
        HallDesk x = new HallDesk();
        for (int i = 0; i < 8; i++) {
            due.is("town()", x.town(), i);
        }
        due.is("town()", x.town(), FULL);
        due.is("count(0)", x.count(0), 8);
        due.is("a refused town is no change", x.count(5), 8);
        due.is("people at first", x.about(0, 7, 0), 1);
        due.is("fine at first", x.about(0, 7, 1), 0);
        due.is("place at first", x.about(0, 7, 2), 1000);
        x.undo();
        due.is("town() once more", x.town(), 7);
        HallDesk y = desk(1, 0);
        y.people(0, 9);
        y.fine(0, 9);
        y.place(0, 9);
        y.undo();
        y.undo();
        y.undo();
        y.undo();
        y.town();
        due.is("a new town is new: people", y.about(0, 0, 0), 1);
        due.is("a new town is new: fine", y.about(0, 0, 1), 0);
        due.is("a new town is new: place", y.about(0, 0, 2), 1000);
    }

    private static void hall() {
        due.promise(3);
        HallDesk x = new HallDesk();
        for (int i = 0; i < 7; i++) {
            due.is("hall()", x.hall(), i);
        }
        due.is("hall()", x.hall(), FULL);
        due.is("count(1)", x.count(1), 7);
        due.is("a refused hall is no change", x.count(5), 7);
        due.is("price at first", x.about(1, 6, 0), 0);
        due.is("room at first", x.about(1, 6, 1), 200);
        due.is("width at first", x.about(1, 6, 2), NONE);
        due.is("places at first", x.about(1, 6, 3), 0);
    }

    private static void people() {
        due.promise(4);
        HallDesk x = desk(2, 0);
        due.is("people(0, 20)", x.people(0, 20), 1);
        due.is("people(0, 1)", x.people(0, 1), 20);
        due.is("people(1, 5)", x.people(1, 5), 1);
        due.is("kept, and the same number again is a change too", x.people(1, 5), 5);
        due.is("count(5)", x.count(5), 6);
        due.is("people(0, 0)", x.people(0, 0), BAD);
        due.is("people(0, 21)", x.people(0, 21), BAD);
        due.is("people(2, 1)", x.people(2, 1), BAD);
        due.is("people(-1, 1)", x.people(-1, 1), BAD);
        due.is("people(HIGH, 1)", x.people(HIGH, 1), BAD);
        due.is("people(0, LOW)", x.people(0, LOW), BAD);
        due.is("refused ones are no changes", x.count(5), 6);
        due.is("about(0, 1, 0)", x.about(0, 1, 0), 5);
    }

    private static void fine() {
        due.promise(5);
        HallDesk x = desk(2, 0);
        due.is("fine(1, 100000)", x.fine(1, 100000), 0);
        due.is("fine(1, 0)", x.fine(1, 0), 100000);
        due.is("fine(1, 7)", x.fine(1, 7), 0);
        due.is("fine(1, 100001)", x.fine(1, 100001), BAD);
        due.is("fine(1, -1)", x.fine(1, -1), BAD);
        due.is("fine(2, 1)", x.fine(2, 1), BAD);
        due.is("fine(-1, 1)", x.fine(-1, 1), BAD);
        due.is("about(0, 1, 1)", x.about(0, 1, 1), 7);
        due.is("about(0, 0, 1)", x.about(0, 0, 1), 0);
        due.is("count(5)", x.count(5), 5);
    }

    private static void place() {
        due.promise(6);
        HallDesk x = desk(2, 0);
        due.is("place(0, -1000)", x.place(0, -1000), 0);
        due.is("place(1, 1000)", x.place(1, 1000), 0);
        due.is("about(0, 0, 2)", x.about(0, 0, 2), 0);
        due.is("about(0, 1, 2)", x.about(0, 1, 2), 2000);
        due.is("place(1, 5) answers 0, not what it was", x.place(1, 5), 0);
        due.is("place(0, -1001)", x.place(0, -1001), BAD);
        due.is("place(0, 1001)", x.place(0, 1001), BAD);
        due.is("place(2, 0)", x.place(2, 0), BAD);
        due.is("place(-1, 0)", x.place(-1, 0), BAD);
        due.is("count(5)", x.count(5), 5);
    }

    private static void price() {
        due.promise(7);
        HallDesk x = desk(0, 2);
        due.is("price(1, 100000)", x.price(1, 100000), 0);
        due.is("price(1, 0)", x.price(1, 0), 100000);
        due.is("price(1, 3)", x.price(1, 3), 0);
        due.is("price(1, 100001)", x.price(1, 100001), BAD);
        due.is("price(1, -1)", x.price(1, -1), BAD);
        due.is("price(2, 1)", x.price(2, 1), BAD);
        due.is("price(-1, 1)", x.price(-1, 1), BAD);
        due.is("about(1, 1, 0)", x.about(1, 1, 0), 3);
        due.is("about(1, 0, 0)", x.about(1, 0, 0), 0);
        due.is("count(5)", x.count(5), 5);
    }

    private static void room() {
        due.promise(8);
        HallDesk x = desk(0, 2);
        due.is("room(1, 0)", x.room(1, 0), 200);
        due.is("room(1, 200)", x.room(1, 200), 0);
        due.is("room(1, 4)", x.room(1, 4), 200);
        due.is("room(1, 201)", x.room(1, 201), BAD);
        due.is("room(1, -1)", x.room(1, -1), BAD);
        due.is("room(2, 1)", x.room(2, 1), BAD);
        due.is("room(-1, 1)", x.room(-1, 1), BAD);
        due.is("about(1, 1, 1)", x.about(1, 1, 1), 4);
        due.is("about(1, 0, 1)", x.about(1, 0, 1), 200);
        due.is("count(5)", x.count(5), 5);
    }

    private static void sheet() {
        due.promise(9);
        HallDesk x = desk(8, 2);
        due.is("sheet(0, 0, 8)", x.sheet(0, 0, 8), 8);
        due.is("about(1, 0, 3)", x.about(1, 0, 3), 8);
        due.is("all places are 0", x.far(0, 7), 0);
        x.way(0, 7, 9);
        due.is("sheet(0, 2, 8) anew", x.sheet(0, 2, 8), 8);
        due.is("all places are 0 again", x.far(0, 7), 0);
        due.is("about(1, 0, 2)", x.about(1, 0, 2), 2);
        due.is("sheet(1, 1, 0): no places, yet not missing", x.sheet(1, 1, 0), 0);
        due.is("count(3)", x.count(3), 2);
        due.is("about(1, 1, 2)", x.about(1, 1, 2), 1);
        int kept = x.count(5);
        due.is("sheet(2, 0, 1)", x.sheet(2, 0, 1), BAD);
        due.is("sheet(-1, 0, 1)", x.sheet(-1, 0, 1), BAD);
        due.is("sheet(0, 3, 1)", x.sheet(0, 3, 1), BAD);
        due.is("sheet(0, -1, 1)", x.sheet(0, -1, 1), BAD);
        due.is("sheet(0, 0, 9)", x.sheet(0, 0, 9), BAD);
        due.is("sheet(0, 0, HIGH)", x.sheet(0, 0, HIGH), BAD);
        due.is("sheet(0, 0, -1)", x.sheet(0, 0, -1), SIZE);
        due.is("sheet(0, 0, LOW)", x.sheet(0, 0, LOW), SIZE);
        due.is("BAD stands ahead of SIZE: hall", x.sheet(2, 0, -1), BAD);
        due.is("BAD stands ahead of SIZE: width", x.sheet(0, 3, -1), BAD);
        due.is("refused ones are no changes", x.count(5), kept);
        due.is("and change nothing", x.about(1, 0, 2), 2);
    }

    private static void lose() {
        due.promise(10);
        HallDesk x = desk(3, 2);
        due.is("lose(0)", x.lose(0), NOTHING);
        x.sheet(0, 0, 3);
        x.way(0, 1, 7);
        due.is("lose(0)", x.lose(0), 3);
        due.is("lose(0) again", x.lose(0), NOTHING);
        due.is("far(0, 1)", x.far(0, 1), 1000000);
        due.is("about(1, 0, 2)", x.about(1, 0, 2), NONE);
        due.is("about(1, 0, 3)", x.about(1, 0, 3), 0);
        due.is("count(3)", x.count(3), 0);
        due.is("count(5)", x.count(5), 8);
        x.sheet(1, 2, 0);
        due.is("lose(1), no places", x.lose(1), 0);
        due.is("lose(2)", x.lose(2), BAD);
        due.is("lose(-1)", x.lose(-1), BAD);
    }

    private static void way() {
        due.promise(11);
        HallDesk x = desk(2, 3);
        due.is("way(0, 0, 1)", x.way(0, 0, 1), NOTHING);
        due.is("NOTHING ahead of INDEX", x.way(0, -1, -1), NOTHING);
        due.is("way(3, 0, 1)", x.way(3, 0, 1), BAD);
        due.is("way(-1, 0, 1)", x.way(-1, 0, 1), BAD);
        x.sheet(0, 0, 2);
        x.sheet(1, 1, 2);
        x.sheet(2, 2, 8);
        due.is("way(0, 0, 127)", x.way(0, 0, 127), 0);
        due.is("way(0, 0, 0)", x.way(0, 0, 0), 127);
        due.is("way(0, 0, 128)", x.way(0, 0, 128), BAD);
        due.is("way(0, 0, -1)", x.way(0, 0, -1), BAD);
        due.is("way(0, 2, 1)", x.way(0, 2, 1), INDEX);
        due.is("way(0, -1, 1)", x.way(0, -1, 1), INDEX);
        due.is("INDEX ahead of the width's BAD", x.way(0, 2, 128), INDEX);
        due.is("way(1, 1, 1000)", x.way(1, 1, 1000), 0);
        due.is("way(1, 1, 1001)", x.way(1, 1, 1001), BAD);
        due.is("way(1, 1, -1)", x.way(1, 1, -1), BAD);
        due.is("way(2, 7, 1000), where no town is yet", x.way(2, 7, 1000), 0);
        due.is("way(2, 7, 1001)", x.way(2, 7, 1001), BAD);
        due.is("way(2, 7, 3)", x.way(2, 7, 3), 1000);
        due.is("far(1, 1)", x.far(1, 1), 1000);
        due.is("far(1, 0)", x.far(1, 0), 0);
        for (int i = 2; i < 8; i++) {
            x.town();
        }
        due.is("a town that comes later is reached", x.far(2, 7), 3);
    }

    private static void copy() {
        due.promise(12);
        HallDesk x = desk(4, 3);
        x.sheet(0, 1, 4);
        for (int i = 0; i < 4; i++) {
            x.way(0, i, 10 + i);
        }
        due.is("copy to a missing one", x.copy(0, 0, 1, 0, 1), NOTHING);
        due.is("copy from a missing one", x.copy(1, 0, 0, 0, 1), NOTHING);
        due.is("NOTHING ahead of INDEX", x.copy(1, -1, 0, 0, 1), NOTHING);
        due.is("copy(3, ..)", x.copy(3, 0, 0, 0, 1), BAD);
        due.is("copy(.., 3, ..)", x.copy(0, 0, 3, 0, 1), BAD);
        due.is("copy(-1, ..)", x.copy(-1, 0, 0, 0, 1), BAD);
        due.is("BAD ahead of NOTHING", x.copy(1, 0, 3, 0, 1), BAD);
        x.sheet(1, 2, 2);
        due.is("unlike widths", x.copy(0, 0, 1, 0, 1), NO);
        due.is("NO ahead of INDEX", x.copy(0, 9, 1, 0, 1), NO);
        x.sheet(1, 1, 2);
        due.is("copy(0, 2, 1, 0, 2)", x.copy(0, 2, 1, 0, 2), 2);
        due.is("far(1, 0)", x.far(1, 0), 12);
        due.is("far(1, 1)", x.far(1, 1), 13);
        due.is("the source stays", x.far(0, 2), 12);
        due.is("copy(0, 0, 1, 1, 2)", x.copy(0, 0, 1, 1, 2), INDEX);
        due.is("copy(0, 3, 1, 0, 2)", x.copy(0, 3, 1, 0, 2), INDEX);
        due.is("copy(0, -1, 1, 0, 1)", x.copy(0, -1, 1, 0, 1), INDEX);
        due.is("copy(0, 0, 1, -1, 1)", x.copy(0, 0, 1, -1, 1), INDEX);
        due.is("copy(0, 0, 1, 0, -1)", x.copy(0, 0, 1, 0, -1), INDEX);
        due.is("copy(0, 1, 1, 0, HIGH)", x.copy(0, 1, 1, 0, HIGH), INDEX);
        due.is("copy(0, HIGH, 1, 0, 1)", x.copy(0, HIGH, 1, 0, 1), INDEX);
        due.is("copy(0, 0, 1, HIGH, 1)", x.copy(0, 0, 1, HIGH, 1), INDEX);
        due.is("copy(0, LOW, 1, 0, LOW)", x.copy(0, LOW, 1, 0, LOW), INDEX);
        due.is("copy(0, 5, 1, 0, 0)", x.copy(0, 5, 1, 0, 0), INDEX);
        due.is("none at the ends", x.copy(0, 4, 1, 2, 0), 0);
        due.is("none is a change too", x.undo(), 7);
        due.is("onto itself, upward", x.copy(0, 0, 0, 1, 3), 3);
        due.is("as they were: far(0, 1)", x.far(0, 1), 10);
        due.is("as they were: far(0, 2)", x.far(0, 2), 11);
        due.is("as they were: far(0, 3)", x.far(0, 3), 12);
        due.is("onto itself, downward", x.copy(0, 1, 0, 0, 3), 3);
        due.is("far(0, 0)", x.far(0, 0), 10);
        due.is("far(0, 1)", x.far(0, 1), 11);
        due.is("far(0, 2)", x.far(0, 2), 12);
        due.is("far(0, 3)", x.far(0, 3), 12);
    }

    private static void far() {
        due.promise(13);
        HallDesk x = desk(3, 2);
        due.is("missing", x.far(0, 0), 1000000);
        x.sheet(0, 1, 2);
        x.way(0, 1, 6);
        due.is("far(0, 0)", x.far(0, 0), 0);
        due.is("far(0, 1)", x.far(0, 1), 6);
        due.is("not so many places", x.far(0, 2), 1000000);
        due.is("another hall's", x.far(1, 1), 1000000);
        due.is("far(2, 0)", x.far(2, 0), BAD);
        due.is("far(-1, 0)", x.far(-1, 0), BAD);
        due.is("far(0, 3)", x.far(0, 3), BAD);
        due.is("far(0, -1)", x.far(0, -1), BAD);
        due.is("far(HIGH, LOW)", x.far(HIGH, LOW), BAD);
    }

    private static void about() {
        due.promise(14);
        HallDesk x = desk(2, 3);
        x.people(1, 4);
        x.fine(1, 5);
        x.place(1, -6);
        x.price(2, 7);
        x.room(2, 8);
        x.sheet(2, 1, 3);
        due.is("about(0, 1, 0)", x.about(0, 1, 0), 4);
        due.is("about(0, 1, 1)", x.about(0, 1, 1), 5);
        due.is("about(0, 1, 2)", x.about(0, 1, 2), 994);
        due.is("about(0, 1, 3)", x.about(0, 1, 3), BAD);
        due.is("about(0, 1, -1)", x.about(0, 1, -1), BAD);
        due.is("about(0, 2, 0)", x.about(0, 2, 0), BAD);
        due.is("about(0, -1, 0)", x.about(0, -1, 0), BAD);
        due.is("about(1, 2, 0)", x.about(1, 2, 0), 7);
        due.is("about(1, 2, 1)", x.about(1, 2, 1), 8);
        due.is("about(1, 2, 2)", x.about(1, 2, 2), 1);
        due.is("about(1, 2, 3)", x.about(1, 2, 3), 3);
        due.is("about(1, 2, 4)", x.about(1, 2, 4), BAD);
        due.is("about(1, 2, -1)", x.about(1, 2, -1), BAD);
        due.is("about(1, 0, 2)", x.about(1, 0, 2), NONE);
        due.is("about(1, 0, 3)", x.about(1, 0, 3), 0);
        due.is("about(1, 3, 0)", x.about(1, 3, 0), BAD);
        due.is("about(1, -1, 0)", x.about(1, -1, 0), BAD);
        due.is("about(2, 0, 0)", x.about(2, 0, 0), BAD);
        due.is("about(-1, 0, 0)", x.about(-1, 0, 0), BAD);
    }

    private static void undoTakesBackEachChange() {
        HallDesk x = desk(1, 2);
        x.sheet(0, 1, 2);
        x.sheet(1, 1, 2);
        x.way(0, 0, 5);
        x.people(0, 2);
        x.undo();
        due.is("people back", x.about(0, 0, 0), 1);
        x.fine(0, 2);
        x.undo();
        due.is("fine back", x.about(0, 0, 1), 0);
        x.place(0, 2);
        x.undo();
        due.is("place back", x.about(0, 0, 2), 1000);
        x.price(0, 2);
        x.undo();
        due.is("price back", x.about(1, 0, 0), 0);
        x.room(0, 2);
        x.undo();
        due.is("room back", x.about(1, 0, 1), 200);
        x.sheet(0, 0, 1);
        x.undo();
        due.is("width back", x.about(1, 0, 2), 1);
        due.is("places back", x.about(1, 0, 3), 2);
        due.is("ways back after sheet", x.far(0, 0), 5);
        x.lose(0);
        x.undo();
        due.is("ways back after lose", x.far(0, 0), 5);
        x.way(0, 0, 6);
        x.undo();
        due.is("way back", x.far(0, 0), 5);
        x.copy(0, 0, 1, 0, 1);
        x.undo();
        due.is("copy back", x.far(1, 0), 0);
        x.town();
        x.undo();
        due.is("town back", x.count(0), 1);
        x.hall();
        x.undo();
        due.is("hall back", x.count(1), 2);
    }

    private static void undo() {
        due.promise(15);
        HallDesk x = new HallDesk();
        due.is("undo()", x.undo(), NO);
        x.town();
        for (int n = 2; n <= 11; n++) {
            x.people(0, n);
        }
        due.is("the latest 8 are kept", x.count(5), 8);
        for (int i = 7; i >= 0; i--) {
            due.is("undo()", x.undo(), i);
            due.is("people after it", x.about(0, 0, 0), i + 3);
        }
        due.is("undo() of none", x.undo(), NO);
        due.is("the town stays", x.count(0), 1);
        due.is("people stay", x.about(0, 0, 0), 3);
        undoTakesBackEachChange();
        undoLeavesHandAndClaims();
    }

    private static void undoLeavesHandAndClaims() {
        HallDesk x = desk(2, 2);
        x.claim(0, 4);
        x.claim(1, 5);
        x.open(3);
        x.price(0, 9);
        due.is("undo()", x.undo(), 4);
        due.is("in hand stays", x.opened(), 3);
        due.is("claims stay", x.count(6), 9);
        x.undo();
        due.is("a hall that is no more is not in hand", x.opened(), 1);
        due.is("halls in hand", x.count(4), 1);
        x.hall();
        due.is("nor is it as it comes again", x.opened(), 1);
        x.undo();
        x.undo();
        due.is("none in hand", x.opened(), 0);
        x.undo();
        due.is("a lost town's claim", x.count(6), 4);
        due.is("claimed(1)", x.claimed(1), BAD);
        x.town();
        due.is("a new town's claim is 0", x.claimed(1), 0);
        due.is("the other's stays", x.claimed(0), 4);
        HallDesk y = desk(1, 2);
        y.sheet(0, 1, 1);
        y.way(0, 0, 7);
        y.open(1);
        due.is("cost(0)", y.cost(0), 7);
        y.way(0, 0, 8);
        due.is("cost(0) after a change", y.cost(0), 8);
        y.undo();
        due.is("cost(0) after undo", y.cost(0), 7);
    }

    public static void main(String[] args) {
        newObject();
        town();
        hall();
        people();
        fine();
        place();
        price();
        room();
        sheet();
        lose();
        way();
        copy();
        far();
        about();
        undo();
        due.end("TownsAndHallsTest");
    }
}
