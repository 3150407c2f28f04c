/** Promises 6 to 14: bodies, men, brides, guards, units. */
public final class BodiesTest {
    private static final Due DUE = new Due();
    private static final int VOID = PointsHome.VOID;

    public static void main(String[] args) {
        body();
        man();
        bride();
        guard();
        need();
        unit();
        ofBody();
        sick();
        lost();
        DUE.end("BodiesTest");
    }

    private static PointsHome camp(int beds) {
        PointsHome x = new PointsHome();
        x.place(1, beds);
        x.place(21, beds);
        x.rail(0, 1, 3, 9);
        return x;
    }

    private static void body() {
        DUE.promise(6);
        PointsHome x = new PointsHome();
        DUE.is("body(0)", x.body(0), 0);
        DUE.is("body(4)", x.body(4), 1);
        DUE.is("body(6)", x.body(6), 2);
        for (int kind : new int[] {-1, 1, 2, 3, 5, 7, 8, Integer.MAX_VALUE, Integer.MIN_VALUE}) {
            DUE.is("body(" + kind + ")", x.body(kind), -1);
        }
        for (int i = 3; i < 200; i++) {
            DUE.is("body", x.body(i % 2 == 0 ? 0 : 4), i);
        }
        DUE.is("body(0) when full", x.body(0), -3);
        DUE.is("body(1) when full", x.body(1), -1);
        DUE.is("count(1)", x.count(1), 200);
        DUE.is("ofBody(2, 0)", x.ofBody(2, 0), 6);
        DUE.is("ofBody(199, 0)", x.ofBody(199, 0), 4);
        DUE.is("ofBody(200, 0)", x.ofBody(200, 0), VOID);
    }

    private static void man() {
        DUE.promise(7);
        PointsHome x = camp(3);
        x.body(0);
        x.body(4);
        x.body(6);
        x.guard(0, 0);
        x.guard(0, 1);
        int[][] bad = {{0, 0, 20, 0}, {5, 0, 20, 0}, {-2, 0, 20, 0}, {-1, -1, 20, 0}, {-1, 10, 20, 0}, {-1, 0, 16, 0}, {-1, 0, 61, 0},
            {-1, 0, 20, 2}, {-1, 0, 20, -1}, {Integer.MAX_VALUE, 0, 20, 0}, {-1, 0, 20, Integer.MAX_VALUE}};
        for (int[] b : bad) {
            DUE.is("man(" + b[0] + ", " + b[1] + ", " + b[2] + ", " + b[3] + ")", x.man(b[0], b[1], b[2], b[3]), -1);
        }
        DUE.is("man of a UNIT", x.man(1, 0, 17, 0), 5);
        DUE.is("man of a DRAFT", x.man(2, 9, 60, 0), 6);
        DUE.is("man of a GUARD", x.man(3, 1, 20, 0), 7);
        DUE.is("man: no bed", x.man(4, 1, 20, 0), -2);
        DUE.is("man: bad ahead of no bed", x.man(4, 1, 16, 0), -1);
        DUE.is("man of a MARSHAL", x.man(4, 1, 20, 1), 8);
        DUE.is("a man is no unit", x.man(5, 1, 20, 1), -1);
        DUE.is("a MAN", x.ofBody(5, 0), 1);
        DUE.is("a CLERK", x.ofBody(6, 0), 2);
        DUE.is("count(2)", x.count(2), 4);
        // Those who come by train hold a bed where they go, the sick where they are; the dead none.
        DUE.is("train(5, 1)", x.train(5, 1), 3);
        DUE.is("man in the bed left", x.man(-1, 0, 20, 0), 9);
        DUE.is("man in the last bed of 1", x.man(-1, 0, 20, 1), 10);
        DUE.is("man: no bed of 1", x.man(-1, 0, 20, 1), -2);
        x.sick(9, 9);
        DUE.is("man: a sick man's bed", x.man(-1, 0, 20, 0), -2);
        x.lost(9, 6);
        DUE.is("man in a dead man's bed", x.man(-1, 0, 20, 0), 11);
        PointsHome y = new PointsHome();
        y.place(0, 999);
        for (int i = 0; i < 200; i++) {
            DUE.is("man", y.man(-1, 0, 20, 0), i);
        }
        DUE.is("man when full", y.man(-1, 0, 20, 0), -3);
        DUE.is("bad man when full", y.man(-1, 0, 61, 0), -1);
        PointsHome z = new PointsHome();
        z.place(0, 1);
        z.man(-1, 0, 20, 0);
        for (int i = 1; i < 200; i++) {
            z.body(0);
        }
        DUE.is("no bed ahead of full", z.man(-1, 0, 20, 0), -2);
    }

    private static void bride() {
        DUE.promise(8);
        PointsHome x = camp(9);
        x.body(4);
        x.man(-1, 0, 20, 0);
        x.man(-1, 3, 20, 0);
        DUE.is("bride(1)", x.bride(1), 3);
        DUE.is("bride(1) again", x.bride(1), -2);
        DUE.is("bride(2)", x.bride(2), 4);
        for (int b : new int[] {0, 3, 5, -1, Integer.MAX_VALUE, Integer.MIN_VALUE}) {
            DUE.is("bride(" + b + ")", x.bride(b), -1);
        }
        DUE.is("ofBody(1, 9)", x.ofBody(1, 9), 3);
        DUE.is("ofBody(3, 0)", x.ofBody(3, 0), 3);
        x.man(-1, 0, 20, 0);
        x.lost(5, 6);
        DUE.is("bride of a dead man", x.bride(5), 6);
        DUE.is("man", x.man(-1, 0, 20, 0), 7);
        while (x.count(1) < 200) {
            x.body(0);
        }
        DUE.is("bride(7) when full", x.bride(7), -3);
        DUE.is("bride(1) when full", x.bride(1), -2);
        DUE.is("bride(0) when full", x.bride(0), -1);
        DUE.is("ofBody(7, 9)", x.ofBody(7, 9), -1);
    }

    private static void guard() {
        DUE.promise(9);
        PointsHome x = camp(9);
        DUE.is("guard(0, 0)", x.guard(0, 0), 0);
        DUE.is("guard(1, 1)", x.guard(1, 1), 1);
        int[][] bad = {{2, 0}, {-1, 0}, {0, 2}, {0, -1}, {Integer.MAX_VALUE, 0}};
        for (int[] b : bad) {
            DUE.is("guard(" + b[0] + ", " + b[1] + ")", x.guard(b[0], b[1]), -1);
        }
        DUE.is("ofBody(0, 0)", x.ofBody(0, 0), 5);
        DUE.is("ofBody(1, 0)", x.ofBody(1, 0), 7);
        while (x.count(1) < 200) {
            x.body(0);
        }
        DUE.is("guard when full", x.guard(0, 0), -3);
        DUE.is("bad guard when full", x.guard(2, 0), -1);
    }

    private static void need() {
        DUE.promise(10);
        PointsHome x = camp(9);
        x.guard(0, 0);
        x.guard(0, 1);
        x.body(4);
        x.body(6);
        x.man(-1, 0, 20, 0);
        DUE.is("need(0, 0, 9)", x.need(0, 0, 9), 0);
        DUE.is("need(0, 0, 1)", x.need(0, 0, 1), 9);
        DUE.is("need(0, 9, 4)", x.need(0, 9, 4), 0);
        DUE.is("need(0, 8, 9)", x.need(0, 8, 9), 0);
        DUE.is("need(0, 9, 0)", x.need(0, 9, 0), 4);
        DUE.is("need(0, 8, 0)", x.need(0, 8, 0), 9);
        DUE.is("need(0, 0, 1) as it was", x.need(0, 0, 1), 1);
        int[][] bad = {{2, 0, 1}, {3, 0, 1}, {4, 0, 1}, {5, 0, 1}, {-1, 0, 1}, {0, -1, 1}, {0, 10, 1}, {0, 0, -1}, {0, 0, 10}};
        for (int[] b : bad) {
            DUE.is("need(" + b[0] + ", " + b[1] + ", " + b[2] + ")", x.need(b[0], b[1], b[2]), -1);
        }
        DUE.is("check with one man for one", x.check(), 0);
        DUE.is("the one man is needed", x.train(4, 1), -2);
        DUE.is("need(1, 0, 1)", x.need(1, 0, 1), 0);
        DUE.is("both together ask for two", x.check(), 3);
        x.man(-1, 0, 20, 0);
        DUE.is("check with two", x.check(), 0);
        x.man(-1, 0, 20, 0);
        DUE.is("one of three may go", x.train(4, 1), 3);
        DUE.is("none of two may", x.train(5, 1), -2);
        x.need(1, 0, 0);
        DUE.is("one of two may now", x.train(5, 1), 3);
        x.man(-1, 5, 20, 0);
        DUE.is("another craft isn't asked for", x.train(7, 1), 3);
        // A guard at one place asks for nobody at another one.
        DUE.is("man at 1", x.man(-1, 0, 20, 1), 8);
        DUE.is("train(8, 0)", x.train(8, 0), 3);
    }

    private static void unit() {
        DUE.promise(11);
        PointsHome x = camp(9);
        x.body(0);
        x.body(4);
        x.guard(0, 1);
        x.man(1, 0, 20, 0);
        DUE.is("unit(3, -1)", x.unit(3, -1), 1);
        DUE.is("unit(3, 2)", x.unit(3, 2), -1);
        DUE.is("unit(3, 2) again", x.unit(3, 2), 2);
        int[][] bad = {{3, 0}, {3, 3}, {3, 4}, {3, -2}, {0, 1}, {1, 1}, {4, 1}, {-1, 1}, {3, Integer.MIN_VALUE}};
        for (int[] b : bad) {
            DUE.is("unit(" + b[0] + ", " + b[1] + ")", x.unit(b[0], b[1]), VOID);
        }
        DUE.is("ofBody(3, 1)", x.ofBody(3, 1), 2);
        DUE.is("act of the marshal", x.act(2, 0, 0), 1 ^ 5);
        x.unit(3, 1);
        DUE.is("act of the unit", x.act(1, 0, 0), 1);
    }

    private static void ofBody() {
        DUE.promise(12);
        PointsHome x = camp(9);
        x.body(4);
        x.man(0, 4, 33, 0);
        int[] first = {2, 0, 4, 33, 0, 0, -1, 0, 0, -1};
        for (int what = 0; what <= 9; what++) {
            DUE.is("ofBody(1, " + what + ")", x.ofBody(1, what), first[what]);
        }
        for (int what : new int[] {-1, 10, Integer.MAX_VALUE, Integer.MIN_VALUE}) {
            DUE.is("ofBody(1, " + what + ")", x.ofBody(1, what), VOID);
        }
        for (int what = 1; what <= 9; what++) {
            DUE.is("of no man", x.ofBody(0, what), VOID);
        }
        DUE.is("ofBody(-1, 0)", x.ofBody(-1, 0), VOID);
        DUE.is("ofBody(2, 0)", x.ofBody(2, 0), VOID);
        x.days(2);
        x.train(1, 1);
        DUE.is("on a train", x.ofBody(1, 4), 1);
        DUE.is("to which", x.ofBody(1, 5), 1);
        DUE.is("till", x.ofBody(1, 6), 5);
        DUE.is("which he left", x.ofBody(1, 8), 0);
        x.days(3);
        DUE.is("come", x.ofBody(1, 4), 0);
        DUE.is("at", x.ofBody(1, 5), 1);
        DUE.is("no till", x.ofBody(1, 6), -1);
        DUE.is("where he is", x.ofBody(1, 8), 1);
        x.sick(1, 2);
        DUE.is("sick", x.ofBody(1, 4), 3);
        DUE.is("sick at", x.ofBody(1, 5), 1);
        DUE.is("sick till", x.ofBody(1, 6), 7);
        x.days(2);
        Due.rule(x, "score 5; low 5", 7);
        x.days(3);
        x.ship(1, 3, 2);
        x.ship(1, 3, 2);
        DUE.is("load(1, 1)", x.load(1, 1), 1);
        int[] aboard = {2, 0, 4, 33, 2, 1, -1, 0, 1, -1};
        for (int what = 0; what <= 9; what++) {
            DUE.is("aboard: ofBody(1, " + what + ")", x.ofBody(1, what), aboard[what]);
        }
        x.sail(1, 0);
        DUE.is("at sea", x.ofBody(1, 5), 1);
        x.days(2);
        int[] home = {2, 0, 4, 33, 4, -1, -1, 0, 1, -1};
        for (int what = 0; what <= 9; what++) {
            DUE.is("home: ofBody(1, " + what + ")", x.ofBody(1, what), home[what]);
        }
        x.man(-1, 0, 20, 0);
        x.files(2, 0, 0, 1);
        x.lost(2, 5);
        int[] gone = {1, -1, 0, 20, 5, -1, 12, 1, 0, -1};
        for (int what = 0; what <= 9; what++) {
            DUE.is("gone: ofBody(2, " + what + ")", x.ofBody(2, what), gone[what]);
        }
    }

    private static void sick() {
        DUE.promise(13);
        PointsHome x = camp(9);
        x.body(4);
        x.man(-1, 0, 20, 0);
        int[][] bad = {{0, 1}, {2, 1}, {-1, 1}, {1, 0}, {1, 61}, {1, -1}, {1, Integer.MAX_VALUE}};
        for (int[] b : bad) {
            DUE.is("sick(" + b[0] + ", " + b[1] + ")", x.sick(b[0], b[1]), -1);
        }
        DUE.is("sick(1, 60)", x.sick(1, 60), 1);
        DUE.is("sick(1, 1) again", x.sick(1, 1), -2);
        DUE.is("sick(1, 0): bad first", x.sick(1, 0), -1);
        DUE.is("a sick man takes no train", x.train(1, 1), -2);
        DUE.is("a sick man isn't ready", x.ready(1), -2);
        x.days(59);
        DUE.is("still", x.ofBody(1, 4), 3);
        x.days(1);
        DUE.is("well", x.ofBody(1, 4), 0);
        DUE.is("no till", x.ofBody(1, 6), -1);
        DUE.is("sick(1, 1)", x.sick(1, 1), 1);
        x.days(1);
        DUE.is("well", x.ofBody(1, 4), 0);
        x.train(1, 1);
        DUE.is("not at a place", x.sick(1, 1), -2);
        // A sick man doesn't stand guard.
        x.guard(0, 0);
        x.need(2, 0, 1);
        x.man(-1, 0, 20, 0);
        x.man(-1, 0, 20, 0);
        x.sick(3, 5);
        DUE.is("check", x.check(), 0);
        DUE.is("the other is needed", x.train(4, 1), -2);
        x.sick(4, 5);
        DUE.is("check", x.check(), 3);
    }

    private static void lost() {
        DUE.promise(14);
        PointsHome x = camp(9);
        x.body(4);
        for (int i = 0; i < 6; i++) {
            x.man(-1, 0, 20, 0);
        }
        int[][] bad = {{0, 5}, {7, 5}, {-1, 6}, {1, 4}, {1, 7}, {1, 0}, {1, Integer.MIN_VALUE}};
        for (int[] b : bad) {
            DUE.is("lost(" + b[0] + ", " + b[1] + ")", x.lost(b[0], b[1]), -1);
        }
        x.days(4);
        DUE.is("lost(1, 5)", x.lost(1, 5), 1);
        DUE.is("lost(1, 6) when gone", x.lost(1, 6), -2);
        DUE.is("lost(1, 5) when gone", x.lost(1, 5), -2);
        DUE.is("lost(2, 6)", x.lost(2, 6), 1);
        DUE.is("lost(2, 5) when dead", x.lost(2, 5), -2);
        DUE.is("since", x.ofBody(1, 6), 4);
        DUE.is("since", x.ofBody(2, 6), 4);
        DUE.is("nowhere", x.ofBody(2, 5), -1);
        DUE.is("left", x.ofBody(2, 8), 0);
        x.sick(3, 5);
        DUE.is("a sick man doesn't run", x.lost(3, 5), -2);
        DUE.is("a sick man dies", x.lost(3, 6), 1);
        x.train(4, 1);
        DUE.is("none runs off a train", x.lost(4, 5), -2);
        x.days(1);
        DUE.is("one dies on a train", x.lost(4, 6), 1);
        DUE.is("he left", x.ofBody(4, 8), 0);
        x.days(9);
        DUE.is("he stays dead", x.ofBody(4, 4), 6);
        DUE.is("the other stays dead", x.ofBody(3, 4), 6);
        Due.rule(x, "low 0", 14);
        x.ship(0, 4, 2);
        DUE.is("fill", x.fill(0), 2);
        DUE.is("none runs off a ship", x.lost(5, 5), -2);
        DUE.is("one dies aboard", x.lost(5, 6), 1);
        DUE.is("aboard", x.ofShip(0, 3), 1);
        x.sail(0, 0);
        x.days(2);
        DUE.is("home", x.ofBody(6, 4), 4);
        DUE.is("brought", x.ofShip(0, 6), 1);
        DUE.is("lost(6, 6) when home", x.lost(6, 6), -2);
        DUE.is("lost(6, 5) when home", x.lost(6, 5), -2);
        DUE.is("dead", x.count(14), 4);
        DUE.is("gone", x.count(13), 1);
        // A man who is needed runs off all the same.
        x.guard(0, 0);
        x.need(7, 0, 1);
        x.man(-1, 0, 20, 0);
        DUE.is("lost(8, 5)", x.lost(8, 5), 1);
        DUE.is("check", x.check(), 3);
    }
}
