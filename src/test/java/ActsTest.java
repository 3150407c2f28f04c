/** Promises 49 to 56: acts of bodies, the trace, shelves. */
public final class ActsTest {
    private static final Due DUE = new Due();
    private static final long NONE = Long.MIN_VALUE;

    public static void main(String[] args) {
        act();
        trace();
        keep();
        row();
        put();
        element();
        shift();
        taken();
        DUE.end("ActsTest");
    }

    /** 0 HOLDER, 1 UNIT, 2 GUARD, 3 DRAFT, 4 MARSHAL, 5 MAN of 1, 6 CLERK of 4 (craft 7), 7 BRIDE of 6, 8 MAN of 1, who is dead. */
    private static PointsHome all() {
        PointsHome x = new PointsHome();
        x.place(0, 9);
        x.body(0);
        x.body(4);
        x.guard(0, 0);
        x.body(6);
        x.guard(0, 1);
        x.man(1, 0, 20, 0);
        x.man(4, 7, 30, 0);
        x.bride(6);
        x.man(1, 0, 40, 0);
        x.lost(8, 6);
        return x;
    }

    private static void ran(PointsHome x, int body, int act, int v, int want, int... bodies) {
        DUE.promise(49);
        DUE.is("act(" + body + ", " + act + ", " + v + ")", x.act(body, act, v), want);
        DUE.promise(58);
        DUE.is("count(15)", x.count(15), bodies.length);
        DUE.promise(50);
        for (int i = 0; i < bodies.length; i++) {
            DUE.is("trace(" + i + ") of act(" + body + ", " + act + ", " + v + ")", x.trace(i), bodies[i]);
        }
        DUE.is("trace(" + bodies.length + ")", x.trace(bodies.length), -1);
    }

    private static void act() {
        PointsHome x = all();
        ran(x, 0, 0, 100, 100, 1);
        ran(x, 0, 1, 100, 200, 10, 1);
        ran(x, 0, 2, 100, 100, 11);
        ran(x, 0, 3, 100, 100 ^ 200, 2, 11, 10, 1);
        ran(x, 5, 0, 100, 125, 20, 1);
        ran(x, 5, 1, 100, 250, 10, 20, 1);
        ran(x, 5, 2, 100, 95, 11);
        ran(x, 5, 3, 100, (95 ^ 250) + 1, 21, 2, 11, 10, 20, 1);
        ran(x, 6, 0, 100, 136, 20, 1);
        ran(x, 6, 1, 100, 265, 30, 10, 20, 1);
        ran(x, 6, 2, 100, 94, 11);
        ran(x, 6, 3, 100, (94 ^ 265) + 1, 21, 2, 11, 30, 10, 20, 1);
        ran(x, 7, 0, 100, 107, 1);
        ran(x, 7, 1, 100, 214, 10, 1);
        ran(x, 7, 2, 100, -93, 40, 11);
        ran(x, 7, 3, 100, -93 ^ 214, 2, 40, 11, 10, 1);
        ran(x, 1, 0, 100, 102, 50);
        ran(x, 1, 1, 100, 206, 51, 10, 50);
        ran(x, 1, 2, 100, 99, 11);
        ran(x, 1, 3, 100, 99 ^ 206, 2, 11, 51, 10, 50);
        ran(x, 2, 0, 100, 100, 50);
        ran(x, 2, 1, 100, 202, 51, 10, 50);
        ran(x, 2, 2, 100, 98 * 3 + 100, 60, 11, 50);
        ran(x, 2, 3, 100, 394 ^ 202, 2, 60, 11, 50, 51, 10, 50);
        ran(x, 3, 0, 100, 100, 50);
        ran(x, 3, 1, 100, 202, 51, 10, 50);
        ran(x, 3, 2, 100, 97, 11);
        ran(x, 3, 3, 100, (97 ^ 202) + 4, 70, 2, 11, 51, 10, 50, 51, 10, 50);
        int counts = 101 ^ 5;
        int keeps = 96 * 3 + counts;
        int moves = (102 ^ 5) * 2 - keeps;
        ran(x, 4, 0, 100, counts, 80, 50);
        ran(x, 4, 1, 100, moves, 81, 51, 10, 80, 50, 60, 11, 80, 50);
        ran(x, 4, 2, 100, keeps, 60, 11, 80, 50);
        ran(x, 4, 3, 100, keeps ^ moves, 2, 60, 11, 80, 50, 81, 51, 10, 80, 50, 60, 11, 80, 50);
        // Ints that wrap.
        ran(x, 5, 1, Integer.MAX_VALUE, (Integer.MAX_VALUE + 25) * 2, 10, 20, 1);
        ran(x, 7, 2, Integer.MIN_VALUE + 7, Integer.MIN_VALUE, 40, 11);
        ran(x, 2, 2, Integer.MIN_VALUE, (Integer.MIN_VALUE - 2) * 3 + Integer.MIN_VALUE, 60, 11, 50);
        // No such body or act: 0, and no trace.
        int[][] bad = {{9, 0}, {-1, 0}, {0, 4}, {0, -1}, {Integer.MAX_VALUE, 0}, {0, Integer.MIN_VALUE}};
        for (int[] b : bad) {
            x.act(4, 3, 1);
            ran(x, b[0], b[1], 5, 0);
        }
        DUE.promise(49);
        x.unit(5, -1);
        DUE.is("one man less", x.act(1, 0, 100), 101);
        // The first body of all may come to a unit later.
        PointsHome y = new PointsHome();
        y.place(0, 9);
        y.man(-1, 0, 20, 0);
        y.body(4);
        y.unit(0, 1);
        DUE.is("man 0 counts", y.act(1, 0, 100), 101);
    }

    private static void trace() {
        DUE.promise(50);
        PointsHome x = all();
        DUE.is("trace(0): none yet", x.trace(0), -1);
        x.act(4, 3, 1);
        DUE.is("trace(-1)", x.trace(-1), -1);
        DUE.is("trace(13)", x.trace(13), 50);
        DUE.is("trace(14)", x.trace(14), -1);
        DUE.is("trace(24)", x.trace(24), -1);
        DUE.is("trace(MAX)", x.trace(Integer.MAX_VALUE), -1);
        DUE.is("trace(MIN)", x.trace(Integer.MIN_VALUE), -1);
        x.act(0, 0, 1);
        DUE.is("the latest alone", x.trace(1), -1);
    }

    private static void keep() {
        DUE.promise(51);
        PointsHome x = all();
        DUE.is("keep(7, 8)", x.keep(7, 8), 1);
        DUE.is("taken(7, 1)", x.taken(7, 1), 1);
        DUE.is("keep(7, -1)", x.keep(7, -1), 1);
        DUE.is("taken(7, 1)", x.taken(7, 1), -11);
        x.row(0, 0, 3);
        DUE.is("keep(0, 0)", x.keep(0, 0), 1);
        DUE.is("element(0, 0)", x.element(0, 0), NONE);
        DUE.is("put(0, 0, 1)", x.put(0, 0, 1), -12);
        int[][] bad = {{8, 0}, {-1, 0}, {0, 9}, {0, -2}, {Integer.MAX_VALUE, -1}, {0, Integer.MIN_VALUE}};
        for (int[] b : bad) {
            DUE.is("keep(" + b[0] + ", " + b[1] + ")", x.keep(b[0], b[1]), -1);
        }
        DUE.is("as it was", x.taken(0, 0), 0);
        x.row(0, 0, 3);
        DUE.is("keep(0, -1)", x.keep(0, -1), 1);
        DUE.is("put(0, 0, 1)", x.put(0, 0, 1), -11);
    }

    private static void row() {
        DUE.promise(52);
        PointsHome x = all();
        for (int sort = 0; sort <= 4; sort++) {
            DUE.is("row(0, " + sort + ", 90)", x.row(0, sort, 90), 1);
            DUE.is("put(0, 89, 1)", x.put(0, 89, 1), 1);
            DUE.is("put(0, 90, 1)", x.put(0, 90, 1), -13);
        }
        DUE.is("row(0, 3, 90)", x.row(0, 3, 90), 1);
        for (int i = 0; i < 90; i++) {
            DUE.is("0 at first", x.element(0, i), 0);
        }
        DUE.is("row(1, 0, 0)", x.row(1, 0, 0), 1);
        DUE.is("no element", x.put(1, 0, 1), -13);
        x.row(2, 2, 4);
        x.put(2, 3, 9);
        DUE.is("row(2, 2, -1)", x.row(2, 2, -1), -14);
        DUE.is("row(2, 2, MIN)", x.row(2, 2, Integer.MIN_VALUE), -14);
        int[][] bad = {{8, 0, 1}, {-1, 0, 1}, {2, 5, 1}, {2, -1, 1}, {2, 0, 91}, {2, 0, Integer.MAX_VALUE}, {2, 5, -1}, {8, 0, -1}};
        for (int[] b : bad) {
            DUE.is("row(" + b[0] + ", " + b[1] + ", " + b[2] + ")", x.row(b[0], b[1], b[2]), -1);
        }
        DUE.is("refused ones change nothing", x.element(2, 3), 9);
        x.row(2, 2, 4);
        DUE.is("a new row is 0", x.element(2, 3), 0);
        x.put(2, 0, 9);
        x.row(2, 2, 4);
        DUE.is("from its first on", x.element(2, 0), 0);
    }

    private static void put() {
        DUE.promise(53);
        PointsHome x = all();
        long[] values = {0, 1, -1, 127, 128, 255, 256, -129, 32768, 65535, 65536, 2147483648L, 4294967296L, Long.MAX_VALUE, Long.MIN_VALUE, 0x1234567890abcdefL};
        for (long v : values) {
            for (int sort = 0; sort <= 4; sort++) {
                x.row(sort, sort, 3);
                DUE.is("put(" + sort + ", 1, " + v + ")", x.put(sort, 1, v), 1);
                long want = sort == 0 ? (byte) v : sort == 1 ? (short) v : sort == 2 ? (int) v : sort == 3 ? v : v == 0 ? 0 : 1;
                DUE.is("element(" + sort + ", 1)", x.element(sort, 1), want);
                DUE.is("element(" + sort + ", 0)", x.element(sort, 0), 0);
                DUE.is("element(" + sort + ", 2)", x.element(sort, 2), 0);
            }
        }
        DUE.is("put(8, ..)", x.put(8, 0, 1), -1);
        DUE.is("put(-1, ..)", x.put(-1, 0, 1), -1);
        DUE.is("nothing there", x.put(6, 0, 1), -11);
        DUE.is("nothing there ahead of the place", x.put(6, -1, 1), -11);
        x.keep(6, 0);
        DUE.is("a body", x.put(6, -1, 1), -12);
        DUE.is("put(0, 3, 1)", x.put(0, 3, 1), -13);
        DUE.is("put(0, -1, 1)", x.put(0, -1, 1), -13);
        DUE.is("put(0, MAX, 1)", x.put(0, Integer.MAX_VALUE, 1), -13);
        DUE.is("put(0, MIN, 1)", x.put(0, Integer.MIN_VALUE, 1), -13);
        // A false from a true.
        x.row(4, 4, 1);
        x.put(4, 0, 256);
        DUE.is("true", x.element(4, 0), 1);
        x.put(4, 0, 0);
        DUE.is("false", x.element(4, 0), 0);
    }

    private static void element() {
        DUE.promise(54);
        PointsHome x = all();
        DUE.is("element(8, 0)", x.element(8, 0), NONE);
        DUE.is("element(-1, 0)", x.element(-1, 0), NONE);
        DUE.is("nothing there", x.element(0, 0), NONE);
        x.keep(0, 0);
        DUE.is("a body", x.element(0, 0), NONE);
        x.row(0, 3, 2);
        DUE.is("element(0, 2)", x.element(0, 2), NONE);
        DUE.is("element(0, -1)", x.element(0, -1), NONE);
        DUE.is("element(0, MAX)", x.element(0, Integer.MAX_VALUE), NONE);
        x.put(0, 1, -7);
        DUE.is("element(0, 1)", x.element(0, 1), -7);
        x.row(1, 3, 90);
        x.put(1, 0, 4);
        x.row(0, 3, 90);
        DUE.is("each shelf for itself", x.element(1, 0), 4);
        DUE.is("the last of the one ahead", x.element(0, 89), 0);
    }

    private static void fill(PointsHome x, int shelf, int sort, int n, int first) {
        x.row(shelf, sort, n);
        for (int i = 0; i < n; i++) {
            x.put(shelf, i, first + i);
        }
    }

    private static void holds(PointsHome x, int shelf, long... want) {
        for (int i = 0; i < want.length; i++) {
            DUE.is("element(" + shelf + ", " + i + ")", x.element(shelf, i), want[i]);
        }
    }

    private static void shift() {
        DUE.promise(55);
        PointsHome x = all();
        fill(x, 0, 2, 6, 10);
        fill(x, 1, 2, 4, 20);
        DUE.is("shift(0, 2, 1, 1, 3)", x.shift(0, 2, 1, 1, 3), 3);
        holds(x, 1, 20, 12, 13, 14);
        holds(x, 0, 10, 11, 12, 13, 14, 15);
        DUE.is("up within one", x.shift(0, 0, 0, 1, 5), 5);
        holds(x, 0, 10, 10, 11, 12, 13, 14);
        DUE.is("down within one", x.shift(0, 2, 0, 0, 4), 4);
        holds(x, 0, 11, 12, 13, 14, 13, 14);
        DUE.is("none from the end", x.shift(0, 6, 1, 4, 0), 0);
        int[][] off = {{0, 7, 1, 0, 0}, {0, 0, 1, 5, 0}, {0, -1, 1, 0, 1}, {0, 0, 1, -1, 1}, {0, 0, 1, 0, 5}, {0, 3, 1, 0, 4}, {1, 0, 0, 3, 4}, {0, 0, 1, 0, -1},
            {0, Integer.MAX_VALUE, 1, 0, 1}, {0, 1, 1, 0, Integer.MAX_VALUE}, {0, 0, 1, Integer.MAX_VALUE, 2}, {0, 0, 1, 0, Integer.MIN_VALUE}};
        for (int[] o : off) {
            DUE.is("shift(" + o[0] + ", " + o[1] + ", " + o[2] + ", " + o[3] + ", " + o[4] + ")", x.shift(o[0], o[1], o[2], o[3], o[4]), -13);
        }
        holds(x, 0, 11, 12, 13, 14, 13, 14);
        holds(x, 1, 20, 12, 13, 14);
        DUE.is("shift(8, ..)", x.shift(8, 0, 0, 0, 1), -1);
        DUE.is("shift(.., 8, ..)", x.shift(0, 0, 8, 0, 1), -1);
        DUE.is("shift(-1, ..)", x.shift(-1, 0, 0, 0, 1), -1);
        DUE.is("bad ahead of nothing", x.shift(5, 0, -1, 0, 1), -1);
        DUE.is("nothing here", x.shift(5, 0, 0, 0, 1), -11);
        DUE.is("nothing there", x.shift(0, 0, 5, 0, 1), -11);
        x.keep(2, 0);
        x.keep(3, 0);
        DUE.is("a body here", x.shift(2, 0, 0, 0, 1), -12);
        DUE.is("a body there", x.shift(0, 0, 2, 0, 1), -12);
        DUE.is("bodies", x.shift(2, 0, 3, 0, 0), -12);
        DUE.is("nothing ahead of a body", x.shift(2, 0, 5, 0, 1), -11);
        x.row(4, 3, 6);
        DUE.is("unlike sorts", x.shift(0, 0, 4, 0, 1), -12);
        DUE.is("unlike sorts ahead of the place", x.shift(0, 99, 4, 0, 1), -12);
        for (int sort = 0; sort <= 4; sort++) {
            fill(x, 6, sort, 90, 1);
            x.row(7, sort, 90);
            DUE.is("all of sort " + sort, x.shift(6, 0, 7, 0, 90), 90);
            DUE.is("the last", x.element(7, 89), sort == 4 ? 1 : 90);
        }
    }

    private static void taken() {
        DUE.promise(56);
        PointsHome x = all();
        // By body: the kinds as which it may be taken.
        int[][] may = {{0, 0}, {1, 0, 4}, {2, 0, 4, 5}, {3, 0, 4, 6}, {4, 0, 4, 5, 7}, {5, 0, 1}, {6, 0, 1, 2}, {7, 0, 3}};
        int[] kinds = {0, 4, 5, 6, 7, 1, 2, 3};
        for (int[] m : may) {
            x.keep(0, m[0]);
            for (int k = 0; k <= 7; k++) {
                boolean fits = false;
                for (int i = 1; i < m.length; i++) {
                    fits |= m[i] == k;
                }
                DUE.is("body " + m[0] + " taken for " + k, x.taken(0, k), fits ? kinds[m[0]] : -12);
            }
        }
        for (int k : new int[] {-1, 8, Integer.MAX_VALUE, Integer.MIN_VALUE}) {
            DUE.is("taken(0, " + k + ")", x.taken(0, k), -1);
            DUE.is("taken(1, " + k + ")", x.taken(1, k), -1);
        }
        DUE.is("taken(8, 0)", x.taken(8, 0), -1);
        DUE.is("taken(-1, 0)", x.taken(-1, 0), -1);
        DUE.is("nothing there", x.taken(1, 0), -11);
        x.row(1, 0, 0);
        DUE.is("a row", x.taken(1, 0), -12);
    }
}
