/**
 * Runs of calls, as a fixed row of numbers picks them, on a HallDesk and on a PlainDesk side by side: all answers
 * must be alike (promises 1 to 34). A run of 512 calls mixes changes, questions and wrong numbers; the shapes
 * below lay stress on small desks, full desks, tight rooms, and towns on few places.
 */
public final class OracleTest {
    private static final int CALLS = 512;
    private static int wrong = 0;
    private static long compared = 0;

    private long seed;
    private final int mostTowns;
    private final int mostHalls;
    private final int mostWay;
    private final int mostMoney;
    private final int mostRoom;
    private final int mostSpot;
    private HallDesk desk = new HallDesk();
    private PlainDesk plain = new PlainDesk();
    private String last = "";

    private OracleTest(long seed, int towns, int halls, int way, int money, int room, int spot) {
        this.seed = seed * 7919 + 12345;
        this.mostTowns = towns;
        this.mostHalls = halls;
        this.mostWay = way;
        this.mostMoney = money;
        this.mostRoom = room;
        this.mostSpot = spot;
    }

    private int pick(int from, int to) {
        seed = seed * 6364136223846793005L + 1442695040888963407L;
        return from + (int) Math.floorMod(seed >>> 33, (long) (to - from + 1));
    }

    private boolean seldom() {
        return pick(0, 24) == 0;
    }

    private static final int[] ODD = {-1, -2, 8, 9, 21, 61, 128, 201, 1001, -1001, 100001, 1000001,
        Integer.MAX_VALUE, Integer.MIN_VALUE};

    private int odd() {
        return ODD[pick(0, ODD.length - 1)];
    }

    private int or(int value) {
        return seldom() ? odd() : value;
    }

    private int aTown() {
        int n = plain.count(0);
        return seldom() ? pick(-1, 8) : n == 0 ? 0 : pick(0, n - 1);
    }

    private int aHall() {
        int n = plain.count(1);
        return seldom() ? pick(-1, 7) : n == 0 ? 0 : pick(0, n - 1);
    }

    private int aKind() {
        return or(pick(0, 6));
    }

    private int aSize() {
        return or(pick(0, 2) == 0 ? -1 : pick(-1, 7));
    }

    private void same(String call, long got, long due) {
        last = call;
        compared++;
        if (got != due) {
            wrong++;
            if (wrong < 20) {
                System.out.println(call + " answered " + got + ", due is " + due);
            }
        }
    }

    private void change() {
        int t = aTown(), h = aHall(), a, b, c, d;
        switch (pick(0, 14)) {
            case 0:
                if (plain.count(0) < mostTowns || mostTowns == 8) {
                    same("town()", desk.town(), plain.town());
                }
                break;
            case 1:
                if (plain.count(1) < mostHalls || mostHalls == 7) {
                    same("hall()", desk.hall(), plain.hall());
                }
                break;
            case 2:
                a = or(pick(1, 20));
                same("people(" + t + ", " + a + ")", desk.people(t, a), plain.people(t, a));
                break;
            case 3:
                a = or(pick(0, mostMoney * 2));
                same("fine(" + t + ", " + a + ")", desk.fine(t, a), plain.fine(t, a));
                break;
            case 4:
            case 5:
                a = or(pick(-mostSpot, mostSpot));
                same("place(" + t + ", " + a + ")", desk.place(t, a), plain.place(t, a));
                break;
            case 6:
                a = or(pick(0, mostMoney));
                same("price(" + h + ", " + a + ")", desk.price(h, a), plain.price(h, a));
                break;
            case 7:
                a = or(pick(0, mostRoom));
                same("room(" + h + ", " + a + ")", desk.room(h, a), plain.room(h, a));
                break;
            case 8:
                a = or(pick(0, 2));
                b = or(pick(0, 3) == 0 ? pick(0, 8) : 8);
                same("sheet(" + h + ", " + a + ", " + b + ")", desk.sheet(h, a, b), plain.sheet(h, a, b));
                break;
            case 9:
                if (pick(0, 5) == 0) {
                    same("lose(" + h + ")", desk.lose(h), plain.lose(h));
                }
                break;
            case 10:
                c = aHall();
                a = or(pick(0, 8));
                b = or(pick(0, 8));
                d = or(pick(0, 8));
                same("copy(" + h + ", " + a + ", " + c + ", " + b + ", " + d + ")", desk.copy(h, a, c, b, d),
                        plain.copy(h, a, c, b, d));
                break;
            default:
                a = or(pick(0, 7));
                b = or(pick(0, mostWay));
                same("way(" + h + ", " + a + ", " + b + ")", desk.way(h, a, b), plain.way(h, a, b));
                break;
        }
    }

    private void look() {
        int t = aTown(), h = aHall(), a, b, c;
        switch (pick(0, 4)) {
            case 0:
                same("far(" + h + ", " + t + ")", desk.far(h, t), plain.far(h, t));
                break;
            case 1:
                a = or(pick(0, 1));
                b = a == 0 ? t : h;
                c = or(pick(0, 4));
                same("about(" + a + ", " + b + ", " + c + ")", desk.about(a, b, c), plain.about(a, b, c));
                break;
            case 2:
                if (pick(0, 3) == 0) {
                    same("undo()", desk.undo(), plain.undo());
                }
                break;
            case 3:
                same("opened()", desk.opened(), plain.opened());
                break;
            default:
                a = or(pick(0, 6));
                same("count(" + a + ")", desk.count(a), plain.count(a));
                break;
        }
    }

    private void sets() {
        int kind = aKind(), k = aSize(), t = aTown(), a;
        switch (pick(0, 9)) {
            case 0:
            case 1:
                a = or(pick(0, (1 << plain.count(1)) - 1));
                same("open(" + a + ")", desk.open(a), plain.open(a));
                break;
            case 2:
                same("cost(" + kind + ")", desk.cost(kind), plain.cost(kind));
                break;
            case 3:
                a = or(pick(0, 4));
                same("goes(" + a + ", " + t + ")", desk.goes(a, t), plain.goes(a, t));
                break;
            case 4:
                a = or(pick(5, 6));
                same("worst(" + a + ")", desk.worst(a), plain.worst(a));
                break;
            case 5:
                same("least(" + kind + ", " + k + ")", desk.least(kind, k), plain.least(kind, k));
                break;
            case 6:
                same("many(" + kind + ", " + k + ")", desk.many(kind, k), plain.many(kind, k));
                break;
            case 7:
                a = or(pick(0, 2));
                same("best(" + kind + ", " + k + ", " + a + ")", desk.best(kind, k, a), plain.best(kind, k, a));
                break;
            case 8:
                same("number(" + kind + ", " + k + ")", desk.number(kind, k), plain.number(kind, k));
                break;
            default:
                a = or(pick(0, 2) == 0 ? 1 : pick(1, 60));
                same("better(" + kind + ", " + a + ")", desk.better(kind, a), plain.better(kind, a));
                break;
        }
    }

    private void claims() {
        int t = aTown(), a;
        switch (pick(0, 7)) {
            case 0:
            case 1:
                a = or(pick(0, 8) == 0 ? pick(0, 1000000) : pick(0, mostMoney));
                same("claim(" + t + ", " + a + ")", desk.claim(t, a), plain.claim(t, a));
                break;
            case 2:
                same("claimed(" + t + ")", desk.claimed(t), plain.claimed(t));
                break;
            case 3:
                same("holds()", desk.holds(), plain.holds());
                break;
            case 4:
                same("raise()", desk.raise(), plain.raise());
                break;
            case 5:
                same("fair()", desk.fair(), plain.fair());
                break;
            case 6:
                claimAllFairly();
                break;
            default:
                a = or(pick(0, 1));
                same("share(" + t + ", " + a + ")", desk.share(t, a), plain.share(t, a));
                break;
        }
    }

    // CLAIMS that are together what all cost are else hardly ever met, and fair() is to see them.
    private void claimAllFairly() {
        int towns = plain.count(0);
        int left = plain.least(2, -1);
        for (int t = 0; t < towns; t++) {
            int v = Math.max(0, Math.min(1000000, t == towns - 1 ? left : left <= 0 ? 0 : pick(0, left * 2 / towns)));
            left -= v;
            same("claim(" + t + ", " + v + ")", desk.claim(t, v), plain.claim(t, v));
        }
        same("fair()", desk.fair(), plain.fair());
    }

    private void line() {
        int kind = or(pick(0, 1)), k = or(pick(0, 2) == 0 ? pick(0, 8) : pick(1, 4));
        if (pick(0, 1) == 0) {
            same("line(" + kind + ", " + k + ")", desk.line(kind, k), plain.line(kind, k));
        } else {
            int i = or(pick(0, 3));
            same("lineAt(" + kind + ", " + k + ", " + i + ")", desk.lineAt(kind, k, i), plain.lineAt(kind, k, i));
        }
    }

    private void everything() {
        same("opened() at the end of " + last, desk.opened(), plain.opened());
        for (int what = 0; what <= 6; what++) {
            same("count(" + what + ") at the end of " + last, desk.count(what), plain.count(what));
        }
        for (int t = 0; t < 8; t++) {
            same("claimed(" + t + ") after " + last, desk.claimed(t), plain.claimed(t));
            for (int what = 0; what < 3; what++) {
                same("about(0) after " + last, desk.about(0, t, what), plain.about(0, t, what));
            }
            for (int h = 0; h < 7; h++) {
                same("far after " + last, desk.far(h, t), plain.far(h, t));
                same("about(1) after " + last, desk.about(1, h, t % 4), plain.about(1, h, t % 4));
            }
        }
    }

    private void run() {
        for (int i = 0; i < CALLS; i++) {
            int which = pick(0, 19);
            // A desk is filled first: else most of a run would meet a nearly empty one.
            if (which < 9 || i < 90) {
                change();
            } else if (which < 11) {
                look();
            } else if (which < 16) {
                sets();
            } else if (which < 18) {
                claims();
            } else {
                line();
            }
            if (i % 64 == 63) {
                everything();
            }
        }
    }

    public static void main(String[] args) {
        for (int seed = 0; seed < 120; seed++) {
            new OracleTest(seed, 3, 3, 4, 12, 30, 4).run();
            new OracleTest(seed + 1000, 5, 4, 9, 100, 40, 9).run();
            new OracleTest(seed + 2000, 5, 5, 127, 3000, 60, 40).run();
            new OracleTest(seed + 3000, 4, 7, 3, 9, 25, 1000).run();
        }
        for (int seed = 0; seed < 12; seed++) {
            new OracleTest(seed + 4000, 8, 7, 6, 40, 50, 9).run();
            new OracleTest(seed + 5000, 8, 7, 1000, 100000, 45, 1000).run();
            new OracleTest(seed + 6000, 8, 7, 127, 500, 200, 3).run();
        }
        System.out.println("OracleTest: " + compared + " answers compared, " + wrong + " wrong");
        if (wrong != 0) {
            System.exit(1);
        }
    }
}
