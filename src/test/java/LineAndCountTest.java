/** Promises 32 to 34: halls on the line, and counts. */
public final class LineAndCountTest {
    private static final int NONE = HallDesk.NONE, BAD = HallDesk.BAD;
    private static final int HIGH = Integer.MAX_VALUE, LOW = Integer.MIN_VALUE;
    private static final Due due = new Due();

    private static HallDesk desk(int... places) {
        HallDesk x = new HallDesk();
        for (int t = 0; t < places.length; t++) {
            x.town();
            x.place(t, places[t]);
        }
        return x;
    }

    private static void choice(HallDesk x, int kind, int k, int... places) {
        for (int i = 0; i < places.length; i++) {
            due.is("lineAt(" + kind + ", " + k + ", " + i + ")", x.lineAt(kind, k, i), places[i] + 1000);
        }
        due.is("lineAt at the end", x.lineAt(kind, k, places.length), NONE);
    }

    private static void line() {
        due.promise(32);
        HallDesk none = new HallDesk();
        due.is("without towns", none.line(0, 1), NONE);
        due.is("BAD ahead of NONE", none.line(2, 1), BAD);
        HallDesk x = desk(10, 0, 4, 20);
        due.is("line(0, 1)", x.line(0, 1), 6 + 4 + 0 + 16);
        due.is("line(1, 1)", x.line(1, 1), 10);
        due.is("line(0, 2)", x.line(0, 2), 10);
        due.is("line(1, 2)", x.line(1, 2), 6);
        due.is("line(0, 3)", x.line(0, 3), 4);
        due.is("line(1, 3)", x.line(1, 3), 4);
        due.is("line(0, 4)", x.line(0, 4), 0);
        due.is("line(0, 8)", x.line(0, 8), 0);
        due.is("line(1, 8)", x.line(1, 8), 0);
        x.people(3, 20);
        due.is("people count in the sum", x.line(0, 1), 10 + 20 + 16);
        due.is("but not in the most", x.line(1, 1), 10);
        due.is("line(-1, 1)", x.line(-1, 1), BAD);
        due.is("line(2, 1)", x.line(2, 1), BAD);
        due.is("line(0, 0)", x.line(0, 0), BAD);
        due.is("line(0, 9)", x.line(0, 9), BAD);
        due.is("line(0, LOW)", x.line(0, LOW), BAD);
        due.is("line(HIGH, 1)", x.line(HIGH, 1), BAD);
        HallDesk wide = desk(-1000, 1000);
        wide.people(0, 20);
        wide.people(1, 20);
        due.is("the widest sum", wide.line(0, 1), 40000);
        due.is("the widest most", wide.line(1, 1), 2000);
        HallDesk eight = desk(7, 6, 5, 4, 3, 2, 1, 0);
        due.is("eight towns, 4", eight.line(0, 4), 4);
        due.is("eight towns, 7", eight.line(0, 7), 1);
        due.is("eight towns, 8", eight.line(0, 8), 0);
    }

    private static void lineAt() {
        due.promise(33);
        HallDesk x = desk(10, 0, 4, 20);
        choice(x, 0, 1, 4);
        choice(x, 1, 1, 10);
        choice(x, 0, 2, 4, 20);
        choice(x, 1, 2, 4, 20);
        choice(x, 0, 3, 0, 10, 20);
        choice(x, 0, 4, 0, 4, 10, 20);
        choice(x, 0, 8, 0, 4, 10, 20);
        HallDesk alike = desk(5, 5, -5, 5);
        choice(alike, 0, 1, 5);
        choice(alike, 1, 1, -5);
        choice(alike, 0, 3, -5, 5);
        HallDesk ties = desk(0, 1, 2, 3, 4);
        choice(ties, 0, 2, 0, 3);
        choice(ties, 0, 3, 0, 1, 3);
        choice(ties, 1, 4, 0, 1, 2, 3);
        HallDesk eight = desk(7, 6, 5, 4, 3, 2, 1, 0);
        choice(eight, 0, 7, 0, 1, 2, 3, 4, 5, 6);
        choice(eight, 0, 8, 0, 1, 2, 3, 4, 5, 6, 7);
        due.is("lineAt(0, 1, HIGH)", x.lineAt(0, 1, HIGH), NONE);
        due.is("lineAt(0, 1, -1)", x.lineAt(0, 1, -1), BAD);
        due.is("lineAt(0, 1, LOW)", x.lineAt(0, 1, LOW), BAD);
        due.is("lineAt(2, 1, 0)", x.lineAt(2, 1, 0), BAD);
        due.is("lineAt(-1, 1, 0)", x.lineAt(-1, 1, 0), BAD);
        due.is("lineAt(0, 0, 0)", x.lineAt(0, 0, 0), BAD);
        due.is("lineAt(0, 9, 0)", x.lineAt(0, 9, 0), BAD);
        due.is("without towns", new HallDesk().lineAt(0, 1, 0), NONE);
        due.is("without towns, BAD ahead of NONE", new HallDesk().lineAt(0, 1, -1), BAD);
        x.place(0, 1);
        choice(x, 0, 1, 1);
        x.undo();
        choice(x, 0, 1, 4);
        HallDesk edges = desk(1000, -1000);
        due.is("the least place", edges.lineAt(0, 2, 0), 0);
        due.is("the greatest place", edges.lineAt(0, 2, 1), 2000);
        choice(edges, 1, 1, -1000);
    }

    private static void count() {
        due.promise(34);
        HallDesk x = desk(0, 0, 0);
        x.people(1, 20);
        x.hall();
        x.hall();
        x.sheet(1, 0, 0);
        x.open(2);
        x.claim(0, 4);
        x.claim(2, 5);
        due.is("towns", x.count(0), 3);
        due.is("halls", x.count(1), 2);
        due.is("people in all", x.count(2), 22);
        due.is("sheets", x.count(3), 1);
        due.is("halls in hand", x.count(4), 1);
        due.is("changes that are kept", x.count(5), 8);
        due.is("claims together", x.count(6), 9);
        due.is("count(7)", x.count(7), BAD);
        due.is("count(-1)", x.count(-1), BAD);
        due.is("count(LOW)", x.count(LOW), BAD);
        x.undo();
        due.is("sheets after undo", x.count(3), 0);
        due.is("changes after undo", x.count(5), 7);
        x.open(3);
        due.is("both in hand", x.count(4), 2);
    }

    public static void main(String[] args) {
        line();
        lineAt();
        count();
        due.end("LineAndCountTest");
    }
}
