/** Promises 36 to 48: relief, voyages, camps shut, the low line. */
public final class PlansTest {
    private static final Due DUE = new Due();
    private static final int VOID = PointsHome.VOID;

    public static void main(String[] args) {
        post();
        ready();
        relief();
        reliefOfMany();
        relieved();
        turn();
        voyages();
        voyage();
        shut();
        bread();
        order();
        have();
        berths();
        line();
        DUE.end("PlansTest");
    }

    /** Places 0 - 1 - 2 by 2 and 3 days, 3 by itself; the score is the age less 30. */
    private static PointsHome camps() {
        PointsHome x = new PointsHome();
        for (int i = 0; i < 4; i++) {
            x.place(0, 99);
        }
        x.rail(0, 1, 2, 9);
        x.rail(1, 2, 3, 9);
        Due.rule(x, "score age-30", 0);
        return x;
    }

    private static void post() {
        DUE.promise(36);
        PointsHome x = camps();
        DUE.is("post(0, 10)", x.post(0, 10), 1);
        DUE.is("post(0, 10) again", x.post(0, 10), 2);
        DUE.is("post(3, 939)", x.post(3, 939), 3);
        int[][] bad = {{4, 10}, {-1, 10}, {0, 0}, {0, 9}, {0, 40}, {0, 940}, {0, 1010}, {0, -1}, {0, -10}, {0, Integer.MAX_VALUE}, {0, Integer.MIN_VALUE}};
        for (int[] b : bad) {
            DUE.is("post(" + b[0] + ", " + b[1] + ")", x.post(b[0], b[1]), -1);
        }
        DUE.is("post(1, 29)", x.post(1, 29), 4);
        DUE.is("post(1, 29)", x.post(1, 29), 5);
        DUE.is("post when full", x.post(1, 29), -3);
        DUE.is("bad post when full", x.post(4, 29), -1);
    }

    private static void ready() {
        DUE.promise(37);
        PointsHome x = camps();
        x.body(4);
        for (int i = 0; i < 12; i++) {
            x.man(-1, 0, 30, 0);
        }
        x.sick(11, 9);
        x.lost(12, 5);
        DUE.is("ready(1)", x.ready(1), 1);
        DUE.is("ready(1) again", x.ready(1), -1);
        for (int b : new int[] {0, 13, -1, Integer.MAX_VALUE, Integer.MIN_VALUE}) {
            DUE.is("ready(" + b + ")", x.ready(b), -1);
        }
        DUE.is("a sick man", x.ready(11), -2);
        DUE.is("a gone man", x.ready(12), -2);
        x.train(10, 1);
        DUE.is("one on a train", x.ready(10), -2);
        for (int i = 2; i <= 8; i++) {
            DUE.is("ready(" + i + ")", x.ready(i), i);
        }
        DUE.is("ready(9) when full", x.ready(9), -3);
        DUE.is("a sick man when full", x.ready(11), -2);
        DUE.is("ready(8) when full", x.ready(8), -1);
        x.sick(1, 9);
        DUE.is("told already ahead of not", x.ready(1), -1);
    }

    private static void relief() {
        DUE.promise(38);
        PointsHome x = camps();
        DUE.is("nothing told", x.relief(), VOID);
        x.man(-1, 0, 40, 0);
        x.man(-1, 0, 35, 1);
        x.man(-1, 0, 32, 2);
        x.man(-1, 1, 20, 0);
        x.ready(0);
        DUE.is("no place told", x.relief(), VOID);
        x.post(0, 10);
        DUE.is("no man told", x.relief(), VOID);
        x.post(0, 10);
        x.ready(1);
        DUE.is("too far", x.relief(), VOID);
        DUE.is("what was told is no more", x.post(0, 12), 1);
        DUE.is("what was told is no more", x.ready(1), 1);
        x.ready(2);
        x.ready(3);
        x.ready(0);
        DUE.is("the least that is near enough and of the craft", x.relief(), 5);
        x.post(0, 15);
        x.ready(0);
        x.ready(1);
        x.ready(2);
        DUE.is("farther", x.relief(), 2);
        x.post(0, 14);
        x.ready(0);
        x.ready(2);
        DUE.is("just too far", x.relief(), 10);
        // Scores below 0 are the less.
        x.man(-1, 0, 17, 0);
        x.post(0, 29);
        x.ready(0);
        x.ready(1);
        x.ready(2);
        x.ready(4);
        DUE.is("two: -13 and 2", x.relief(), -11);
        x.post(3, 19);
        x.ready(0);
        DUE.is("no way to 3", x.relief(), VOID);
        // Those who left since are passed over.
        x.post(0, 19);
        x.ready(4);
        x.ready(0);
        x.ready(1);
        x.sick(4, 3);
        x.train(1, 2);
        DUE.is("passed over", x.relief(), 10);
        DUE.is("the second told", x.relieved(1), 0);
        DUE.is("the first told", x.relieved(0), -2);
        // Judged by place 0, not by where he is.
        PointsHome y = camps();
        y.man(-1, 0, 50, 3);
        y.post(3, 10);
        y.ready(0);
        DUE.is("by place 0", y.relief(), 20);
    }

    private static void reliefOfMany() {
        DUE.promise(38);
        // Two posts that must share: the cheap man must go where no other can.
        PointsHome x = camps();
        x.man(-1, 0, 31, 0);
        x.man(-1, 0, 36, 1);
        x.post(1, 12);
        x.post(0, 10);
        x.ready(0);
        x.ready(1);
        DUE.is("going through", x.relief(), 7);
        DUE.is("man 0 to the second", x.relieved(0), 1);
        DUE.is("man 1 to the first", x.relieved(1), 0);
        // Of several the first: the lesser places for the first post.
        PointsHome y = camps();
        for (int i = 0; i < 6; i++) {
            y.man(-1, 0, 33, 0);
        }
        y.post(0, 20);
        y.post(0, 30);
        for (int i = 5; i >= 0; i--) {
            y.ready(i);
        }
        DUE.is("five of six", y.relief(), 15);
        int[] to = {0, 0, 1, 1, 1, -2};
        for (int i = 0; i < 6; i++) {
            DUE.is("relieved(" + i + ")", y.relieved(i), to[i]);
        }
        // Sums beyond an int are compared as they are, told held.
        PointsHome z = new PointsHome();
        z.place(0, 99);
        Due.rule(z, "score 9999*9999*19+age", 0);
        for (int i = 0; i < 4; i++) {
            z.man(-1, 0, 20 - i, 0);
        }
        z.post(0, 30);
        for (int i = 0; i < 4; i++) {
            z.ready(i);
        }
        DUE.is("held above", z.relief(), 1999999999);
        DUE.is("the dearest stays", z.relieved(0), -2);
        Due.rule(z, "score 0-9999*9999*19-age", 0);
        z.post(0, 30);
        for (int i = 0; i < 4; i++) {
            z.ready(i);
        }
        DUE.is("held below", z.relief(), -1999999999);
        DUE.is("the least go", z.relieved(3), -2);
        // Eight men for five posts.
        PointsHome w = camps();
        for (int i = 0; i < 8; i++) {
            w.man(-1, 0, 40 + i, 0);
        }
        w.post(0, 10);
        w.post(0, 20);
        w.post(0, 20);
        w.post(0, 20);
        w.post(0, 10);
        for (int i = 0; i < 8; i++) {
            w.ready(i);
        }
        DUE.is("all eight", w.relief(), 80 + 28);
        int[] places = {0, 1, 1, 2, 2, 3, 3, 4};
        for (int i = 0; i < 8; i++) {
            DUE.is("relieved(" + i + ")", w.relieved(i), places[i]);
        }
    }

    private static void relieved() {
        DUE.promise(39);
        PointsHome x = camps();
        DUE.is("relieved(0): none yet", x.relieved(0), -1);
        x.man(-1, 0, 30, 0);
        x.man(-1, 0, 29, 0);
        x.post(0, 10);
        x.ready(0);
        x.ready(1);
        x.relief();
        DUE.is("relieved(0)", x.relieved(0), -2);
        DUE.is("relieved(1)", x.relieved(1), 0);
        DUE.is("relieved(2)", x.relieved(2), -1);
        DUE.is("relieved(-1)", x.relieved(-1), -1);
        DUE.is("relieved(MAX)", x.relieved(Integer.MAX_VALUE), -1);
        x.post(0, 110);
        x.ready(0);
        DUE.is("no way", x.relief(), VOID);
        DUE.is("the latest that found one", x.relieved(1), 0);
        DUE.is("with all its men", x.relieved(0), -2);
        x.post(0, 10);
        x.ready(1);
        x.relief();
        DUE.is("a new one", x.relieved(0), 0);
        DUE.is("of one man", x.relieved(1), -1);
    }

    private static PointsHome harbours() {
        PointsHome x = new PointsHome();
        for (int i = 0; i < 4; i++) {
            x.place(1, 9);
        }
        x.place(0, 9);
        return x;
    }

    private static void turn() {
        DUE.promise(40);
        PointsHome x = harbours();
        for (int i = 0; i < 4; i++) {
            x.ship(0, 5, 5);
        }
        DUE.is("turn(0, 3)", x.turn(0, 3), 1);
        DUE.is("turn(0, 3) again", x.turn(0, 3), -1);
        DUE.is("turn(1, 0)", x.turn(1, 0), 1);
        DUE.is("turn(1, 7): port 0 again", x.turn(1, 7), -1);
        DUE.is("turn(1, 3999)", x.turn(1, 3999), 2);
        DUE.is("turn(1, 3000): port 3 again", x.turn(1, 3000), -1);
        DUE.is("turn(2, 1005)", x.turn(2, 1005), -1);
        int[][] bad = {{0, 4}, {0, -1}, {1, 4005}, {1, 5005}, {1, -1}, {1, -1000}, {2, 0}, {-1, 0}, {1, Integer.MAX_VALUE}, {1, Integer.MIN_VALUE}};
        for (int[] b : bad) {
            DUE.is("turn(" + b[0] + ", " + b[1] + ")", x.turn(b[0], b[1]), -1);
        }
        DUE.is("turn(0, 0)", x.turn(0, 0), 2);
        DUE.is("turn(0, 1)", x.turn(0, 1), 3);
        DUE.is("turn(0, 2) when full", x.turn(0, 2), -3);
        DUE.is("turn(0, 3) when full", x.turn(0, 3), -1);
        DUE.is("turn(1, 1005)", x.turn(1, 1005), 3);
        DUE.is("turn(1, 2005) when full", x.turn(1, 2005), -3);
        DUE.is("turn(1, 4005) when full", x.turn(1, 4005), -1);
    }

    private static int plan(PointsHome x, int days, int ships, int... ports) {
        for (int s = 0; s < ships; s++) {
            x.turn(0, s);
        }
        for (int p : ports) {
            x.turn(1, p);
        }
        return x.voyages(days);
    }

    private static void row(PointsHome x, int... want) {
        for (int i = 0; i < want.length; i++) {
            DUE.is("voyage(" + i + ")", x.voyage(i), want[i]);
        }
        DUE.is("voyage(" + want.length + ")", x.voyage(want.length), -1);
    }

    private static void voyages() {
        DUE.promise(41);
        PointsHome x = harbours();
        x.ship(0, 10, 10);
        x.ship(0, 7, 5);
        DUE.is("none told", x.voyages(5), -2);
        x.turn(0, 0);
        DUE.is("no port told", x.voyages(5), -2);
        x.turn(1, 20);
        for (int b : new int[] {0, -1, 201, Integer.MAX_VALUE, Integer.MIN_VALUE}) {
            DUE.is("voyages(" + b + ")", x.voyages(b), -1);
        }
        DUE.is("refused ones leave what was told", x.voyages(10), 10);
        DUE.is("then it is no more", x.voyages(10), -2);
        x.turn(1, 20);
        DUE.is("no ship told", x.voyages(10), -2);
        x.turn(0, 0);
        DUE.is("9 days are too few", x.voyages(9), 0);
        DUE.is("voyages(29)", plan(x, 29, 1, 99), 10);
        DUE.is("voyages(30)", plan(x, 30, 1, 99), 20);
        DUE.is("voyages(49)", plan(x, 49, 1, 99), 20);
        DUE.is("voyages(50)", plan(x, 50, 1, 99), 30);
        DUE.is("three at most", plan(x, 200, 1, 99), 30);
        DUE.is("as many as wait", plan(x, 200, 1, 25), 25);
        row(x, 0, 0, 0);
        DUE.is("nobody waits", plan(x, 200, 1, 0, 1000), 0);
        row(x);
        // The one man of port 0 is left: no berth may stay empty.
        DUE.is("two ships", plan(x, 30, 2, 1, 1099), 2 * 10 + 3 * 7);
        row(x, 1, 1, 1, 1, 1);
        // Ship 0 is free on 0 and 20, ship 1 on 0, 10 and 20: only ship 1 can fetch the 7 with no berth empty, and as early as can be.
        DUE.is("whose turn it is", plan(x, 30, 2, 7, 1099), 2 * 10 + 3 * 7);
        row(x, 1, 0, 1, 1, 1);
        DUE.is("berths to spare", plan(x, 30, 2, 1, 1030), 31);
        row(x, 0, 1, 1, 1, 1);
        // Both are free at once: the first told goes first.
        PointsHome y = harbours();
        y.ship(0, 3, 5);
        y.ship(0, 9, 5);
        DUE.is("the small ship fits the small port", plan(y, 5, 2, 9, 1003), 12);
        row(y, 1, 0);
        y.turn(0, 1);
        y.turn(0, 0);
        y.turn(1, 9);
        y.turn(1, 1003);
        DUE.is("told the other way round", y.voyages(5), 12);
        row(y, 0, 1);
        // The greedy one isn't the best: 10 from a port of 10, and 4 twice from a port of 8.
        PointsHome z = harbours();
        z.ship(0, 4, 2);
        z.ship(0, 10, 8);
        DUE.is("not by the first port alone", plan(z, 9, 2, 10, 1008), 18);
        row(z, 1, 0, 1);
        DUE.is("bounds", plan(z, 1, 2, 10, 1008), 0);
        // Three ships, three voyages each.
        PointsHome w = harbours();
        w.ship(0, 1, 2);
        w.ship(0, 2, 3);
        w.ship(0, 4, 4);
        DUE.is("nine voyages", plan(w, 200, 3, 500, 1500, 2500), 21);
        row(w, 0, 0, 0, 0, 0, 0, 0, 0, 0);
        DUE.is("of three ports", plan(w, 200, 3, 7, 2007, 3007), 21);
        row(w, 0, 0, 0, 1, 1, 2, 1, 2, 2);
    }

    private static void voyage() {
        DUE.promise(42);
        PointsHome x = harbours();
        x.ship(0, 10, 10);
        DUE.is("voyage(0): none yet", x.voyage(0), -1);
        plan(x, 200, 1, 5, 1005, 2005);
        row(x, 0, 1, 2);
        DUE.is("voyage(-1)", x.voyage(-1), -1);
        DUE.is("voyage(MAX)", x.voyage(Integer.MAX_VALUE), -1);
        DUE.is("refused", x.voyages(0), -1);
        DUE.is("refused", x.voyages(5), -2);
        row(x, 0, 1, 2);
        plan(x, 5, 1, 5);
        row(x);
        // By the place in the list, not by the port's number.
        plan(x, 10, 1, 3005, 2007);
        row(x, 1);
        // All men are home: no choice is left.
        plan(x, 200, 1, 5, 1000);
        row(x, 0);
    }

    private static void shut() {
        DUE.promise(43);
        PointsHome x = new PointsHome();
        for (int i = 0; i < 10; i++) {
            x.place(0, 9);
        }
        x.place(1, 9);
        DUE.is("shut(0, 1001, 0)", x.shut(0, 1001, 0), 1);
        DUE.is("shut(1, 20999, 253)", x.shut(1, 20999, 253), 2);
        int[][] bad = {{10, 1001, 0}, {11, 1001, 0}, {-1, 1001, 0}, {0, 1001, 0}, {2, 1000, 0}, {2, 999, 0}, {2, 21000, 0}, {2, 21001, 0}, {2, 0, 0}, {2, -1001, 0},
            {2, 5000, 0}, {2, 1001, 4}, {2, 1001, 255}, {2, 1001, 256}, {2, 1001, -1}, {2, Integer.MAX_VALUE, 0}, {2, 1001, Integer.MIN_VALUE}};
        for (int[] b : bad) {
            DUE.is("shut(" + b[0] + ", " + b[1] + ", " + b[2] + ")", x.shut(b[0], b[1], b[2]), -1);
        }
        for (int i = 2; i < 8; i++) {
            DUE.is("shut(" + i + ", ..)", x.shut(i, 1001, 0), i + 1);
        }
        DUE.is("shut when full", x.shut(8, 1001, 0), -3);
        DUE.is("shut when full, any bit", x.shut(8, 1001, 255), -3);
        DUE.is("bad shut when full", x.shut(0, 1001, 0), -1);
        DUE.is("bad shut when full", x.shut(8, 1001, 256), -1);
    }

    private static void bread() {
        DUE.promise(44);
        PointsHome x = new PointsHome();
        for (int i = 0; i < 9; i++) {
            x.place(0, 9);
        }
        DUE.is("none told", x.bread(), -1);
        x.shut(4, 3007, 0);
        DUE.is("one", x.bread(), 21);
        DUE.is("no more told", x.bread(), -1);
        // Most bread a day first: 2 * 9 + (2 + 4) * 3, not 4 * 3 + 6 * 9.
        x.shut(0, 4003, 0);
        x.shut(1, 2009, 0);
        DUE.is("two", x.bread(), 36);
        x.shut(0, 4003, 0);
        x.shut(1, 2009, 1);
        DUE.is("the other way by its bit", x.bread(), 12 + 54);
        // Like ones: the first told first.
        x.shut(5, 2002, 0);
        x.shut(3, 2002, 0);
        x.shut(4, 1001, 0);
        DUE.is("like ones", x.bread(), 1 + 2 * 3 + 2 * 5);
        DUE.is("order(0)", x.order(0), 5);
        DUE.is("order(1)", x.order(1), 3);
        DUE.is("order(2)", x.order(2), 4);
        // Bits of places that were not told don't count.
        x.shut(0, 1001, 254);
        DUE.is("untold bits", x.bread(), 1);
        // Round in a ring: none.
        x.shut(0, 1001, 2);
        x.shut(1, 1001, 4);
        x.shut(2, 1001, 1);
        x.shut(3, 1001, 0);
        DUE.is("a ring", x.bread(), -2);
        DUE.is("what was told is no more", x.bread(), -1);
        // Eight, each behind the next.
        for (int i = 0; i < 8; i++) {
            x.shut(i, 20999, i < 7 ? 2 << i : 0);
        }
        DUE.is("eight, the dearest", x.bread(), 999 * 20 * 36);
        for (int i = 0; i < 8; i++) {
            DUE.is("order(" + i + ")", x.order(i), 7 - i);
        }
        // A cheap one that holds up a dear one goes first.
        x.shut(0, 20001, 0);
        x.shut(1, 1999, 1);
        x.shut(2, 1100, 0);
        DUE.is("held up", x.bread(), Math.min(100 + 21 + 999 * 22, 20 + 999 * 21 + 100 * 22));
    }

    private static void order() {
        DUE.promise(45);
        PointsHome x = new PointsHome();
        for (int i = 0; i < 9; i++) {
            x.place(0, 9);
        }
        DUE.is("order(0): none yet", x.order(0), -1);
        x.shut(8, 1001, 0);
        x.shut(6, 1002, 0);
        x.bread();
        DUE.is("order(0)", x.order(0), 6);
        DUE.is("order(1)", x.order(1), 8);
        DUE.is("order(2)", x.order(2), -1);
        DUE.is("order(-1)", x.order(-1), -1);
        DUE.is("order(MAX)", x.order(Integer.MAX_VALUE), -1);
        x.shut(0, 1001, 2);
        x.shut(1, 1001, 1);
        DUE.is("none", x.bread(), -2);
        DUE.is("the latest found", x.order(1), 8);
        x.bread();
        DUE.is("the latest found", x.order(0), 6);
        x.shut(2, 1001, 0);
        x.bread();
        DUE.is("a new one", x.order(0), 2);
        DUE.is("of one", x.order(1), -1);
    }

    private static void have() {
        DUE.promise(46);
        PointsHome x = new PointsHome();
        DUE.is("have(0, 199)", x.have(0, 199), 0);
        DUE.is("have(0, 5)", x.have(0, 5), 199);
        DUE.is("have(99, 7)", x.have(99, 7), 0);
        DUE.is("have(99, 0)", x.have(99, 0), 7);
        DUE.is("have(0, 0)", x.have(0, 0), 5);
        int[][] bad = {{-1, 0}, {100, 0}, {0, -1}, {0, 200}, {Integer.MAX_VALUE, 0}, {0, Integer.MIN_VALUE}};
        for (int[] b : bad) {
            DUE.is("have(" + b[0] + ", " + b[1] + ")", x.have(b[0], b[1]), -1);
        }
    }

    private static void berths() {
        DUE.promise(47);
        PointsHome x = new PointsHome();
        DUE.is("berths(0, 0, 9999)", x.berths(0, 0, 9999), 0);
        DUE.is("berths(3, 7, 4)", x.berths(3, 7, 4), 0);
        DUE.is("berths(2, 7, 5)", x.berths(2, 7, 5), 0);
        DUE.is("berths(3, 0, 6)", x.berths(3, 0, 6), 0);
        DUE.is("berths(0, 0, 0)", x.berths(0, 0, 0), 9999);
        DUE.is("berths(3, 7, 0)", x.berths(3, 7, 0), 4);
        DUE.is("berths(2, 7, 0)", x.berths(2, 7, 0), 5);
        DUE.is("berths(3, 0, 0)", x.berths(3, 0, 0), 6);
        int[][] bad = {{-1, 0, 0}, {4, 0, 0}, {0, -1, 0}, {0, 8, 0}, {0, 0, -1}, {0, 0, 10000}, {Integer.MAX_VALUE, 0, 0}};
        for (int[] b : bad) {
            DUE.is("berths(" + b[0] + ", " + b[1] + ", " + b[2] + ")", x.berths(b[0], b[1], b[2]), -1);
        }
    }

    private static void line() {
        DUE.promise(48);
        PointsHome x = new PointsHome();
        DUE.is("nobody: all come at once", x.line(0, 1, 1), 0);
        int[][] bad = {{-1, 1, 1}, {8, 1, 1}, {0, 0, 1}, {0, 5, 1}, {0, 1, 0}, {0, 1, 5}, {Integer.MAX_VALUE, 1, 1}, {0, Integer.MIN_VALUE, 1}};
        for (int[] b : bad) {
            DUE.is("line(" + b[0] + ", " + b[1] + ", " + b[2] + ")", x.line(b[0], b[1], b[2]), -1);
        }
        for (int s = 0; s < 100; s++) {
            x.have(s, 1);
        }
        DUE.is("no berths", x.line(0, 1, 4), 100);
        int[] weeks = {10, 20, 0, 5, 0, 0, 0, 30};
        for (int w = 0; w < 8; w++) {
            x.berths(0, w, weeks[w]);
        }
        // Within one week: as many come as have berths that week.
        int[] one = {90, 70, 70, 65, 65, 65, 65, 35};
        // Within two: 30 come, 20 wait; 0 more beside 20; none wait; 5 of week 3; of weeks 6 and 7 30; week 7 counts again behind itself.
        int[] two = {70, 70, 65, 65, 65, 65, 35, 5};
        for (int w = 0; w < 8; w++) {
            DUE.is("line(" + w + ", 1, 1)", x.line(w, 1, 1), one[w]);
            DUE.is("line(" + w + ", 1, 2)", x.line(w, 1, 2), two[w]);
        }
        // The worst row counts; each row has those who wait for itself.
        for (int w = 0; w < 8; w++) {
            x.berths(1, w, 8);
        }
        DUE.is("by rows 0 and 1, week 0", x.line(0, 2, 1), 92);
        DUE.is("by rows 0 and 1, week 1", x.line(1, 2, 1), 84);
        DUE.is("by rows 0 and 1, week 2", x.line(2, 2, 1), 84);
        DUE.is("by rows 0 and 1, within 2, week 0", x.line(0, 2, 2), 84);
        DUE.is("by rows 0 to 2", x.line(7, 3, 1), 100);
        x.berths(2, 0, 50);
        x.berths(3, 0, 4);
        DUE.is("by rows 0 to 2 now", x.line(0, 3, 1), 92);
        DUE.is("by all four", x.line(0, 4, 1), 96);
        // Many of one score come together or not at all, and those above them wait for nobody.
        PointsHome y = new PointsHome();
        y.have(99, 3);
        y.have(50, 100);
        y.have(0, 1);
        y.berths(0, 0, 102);
        y.berths(0, 1, 100);
        DUE.is("99 comes", y.line(0, 1, 1), 51);
        DUE.is("then 50", y.line(1, 1, 1), 1);
        DUE.is("no berths more", y.line(7, 1, 1), 1);
        y.berths(0, 7, 1);
        DUE.is("the last", y.line(7, 1, 1), 0);
        DUE.is("week 6 within two", y.line(6, 1, 2), 0);
        // Those who wait fill later weeks: nobody may come till they are gone.
        PointsHome z = new PointsHome();
        z.have(80, 30);
        z.have(70, 5);
        z.berths(0, 0, 10);
        z.berths(0, 1, 10);
        z.berths(0, 2, 10);
        DUE.is("30 in three weeks", z.line(0, 1, 3), 71);
        DUE.is("20 wait", z.line(1, 1, 3), 71);
        DUE.is("10 wait", z.line(2, 1, 3), 71);
        z.berths(0, 3, 5);
        DUE.is("in week 1 within three 5 more may come", z.line(1, 1, 3), 0);
        DUE.is("in week 0 within four they come at once", z.line(0, 1, 4), 0);
    }
}
