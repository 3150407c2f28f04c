/** Promises 1 to 5: a new object, places, rails, days. */
public final class PlacesTest {
    private static final Due DUE = new Due();

    public static void main(String[] args) {
        newObject();
        place();
        rail();
        far();
        days();
        DUE.end("PlacesTest");
    }

    private static void newObject() {
        DUE.promise(1);
        PointsHome x = new PointsHome();
        for (int what = 0; what <= 15; what++) {
            DUE.is("count(" + what + ")", x.count(what), 0);
        }
        DUE.is("check()", x.check(), 0);
        DUE.is("ofBody(0, 0)", x.ofBody(0, 0), PointsHome.VOID);
        DUE.is("ofShip(0, 0)", x.ofShip(0, 0), PointsHome.VOID);
        DUE.is("inForce(0, 0, 0)", x.inForce(0, 0, 0), -1);
        DUE.is("tried(0, 0)", x.tried(0, 0), -1);
        DUE.is("trace(0)", x.trace(0), -1);
        DUE.is("voyage(0)", x.voyage(0), -1);
        DUE.is("order(0)", x.order(0), -1);
        DUE.is("relieved(0)", x.relieved(0), -1);
        DUE.is("taken(0, 0)", x.taken(0, 0), -11);
        DUE.is("blank(5)", x.blank(5), -1);
        DUE.is("BAD", PointsHome.BAD, -1);
        DUE.is("NOT", PointsHome.NOT, -2);
        DUE.is("FULL", PointsHome.FULL, -3);
        DUE.is("VOID", PointsHome.VOID, -2000000000);
        PointsHome other = new PointsHome();
        other.place(0, 1);
        DUE.is("count(0) of the first object", x.count(0), 0);
    }

    private static void place() {
        DUE.promise(2);
        PointsHome x = new PointsHome();
        DUE.is("place(0, 1)", x.place(0, 1), 0);
        DUE.is("place(81, 999)", x.place(81, 999), 1);
        int[][] bad = {{-1, 5}, {-10, 5}, {2, 5}, {9, 5}, {89, 5}, {90, 5}, {91, 5}, {82, 5}, {0, 0}, {0, 1000}, {0, -1},
            {Integer.MIN_VALUE, 5}, {Integer.MAX_VALUE, 5}, {0, Integer.MAX_VALUE}};
        for (int[] b : bad) {
            DUE.is("place(" + b[0] + ", " + b[1] + ")", x.place(b[0], b[1]), -1);
        }
        DUE.is("count(0)", x.count(0), 2);
        for (int i = 2; i < 20; i++) {
            DUE.is("place(10, 7)", x.place(10, 7), i);
        }
        DUE.is("place(10, 7) as the 21st", x.place(10, 7), -3);
        DUE.is("place(12, 7) when full", x.place(12, 7), -1);
        DUE.is("count(0)", x.count(0), 20);
        // LAND and SORT by what hangs on them.
        PointsHome y = new PointsHome();
        y.place(81, 2);
        y.place(80, 2);
        y.place(11, 2);
        Due.rule(y, "score land", 0);
        DUE.is("man", y.man(-1, 0, 20, 0), 0);
        DUE.is("land 8", y.judged(0, 0, 0, 10), 8);
        DUE.is("a ship at a PORT", y.ship(0, 1, 2), 0);
        DUE.is("a ship at a CAMP", y.ship(1, 1, 2), -1);
        y.man(-1, 0, 20, 2);
        DUE.is("land 1", y.judged(1, 0, 0, 10), 1);
        DUE.is("a camp to shut", y.shut(1, 1001, 0), 1);
        DUE.is("a port to shut", y.shut(2, 1001, 0), -1);
    }

    private static void rail() {
        DUE.promise(3);
        PointsHome x = new PointsHome();
        for (int i = 0; i < 3; i++) {
            x.place(0, 9);
        }
        DUE.is("rail(0, 1, 5, 1)", x.rail(0, 1, 5, 1), 5);
        DUE.is("rail(1, 0, 7, 2)", x.rail(1, 0, 7, 2), 5);
        DUE.is("rail(1, 0, 3, 2)", x.rail(1, 0, 3, 2), 3);
        DUE.is("rail(0, 2, 9, 99)", x.rail(0, 2, 9, 99), 9);
        DUE.is("rail(0, 2, 1, 1)", x.rail(0, 2, 1, 1), 1);
        int[][] bad = {{0, 0, 1, 1}, {0, 3, 1, 1}, {3, 0, 1, 1}, {-1, 0, 1, 1}, {0, -1, 1, 1}, {0, 1, 0, 1}, {0, 1, 10, 1},
            {0, 1, 1, 0}, {0, 1, 1, 100}, {0, 1, -1, 1}, {Integer.MAX_VALUE, 0, 1, 1}, {0, Integer.MIN_VALUE, 1, 1}};
        for (int[] b : bad) {
            DUE.is("rail(" + b[0] + ", " + b[1] + ", ..)", x.rail(b[0], b[1], b[2], b[3]), -1);
        }
        DUE.is("far(0, 1) after refusals", x.far(0, 1), 3);
        // The last told SEATS count, of both ways together.
        for (int i = 0; i < 4; i++) {
            x.man(-1, 0, 20, i % 2);
        }
        DUE.is("train(0, 1)", x.train(0, 1), 3);
        DUE.is("train(1, 0)", x.train(1, 0), 3);
        DUE.is("train(2, 1): no seat", x.train(2, 1), -2);
        x.rail(0, 1, 9, 3);
        DUE.is("train(2, 1) by three seats", x.train(2, 1), 3);
        x.rail(0, 1, 9, 1);
        DUE.is("train(3, 0) by one seat", x.train(3, 0), -2);
        x.days(1);
        DUE.is("train(3, 0) on the next day", x.train(3, 0), 4);
    }

    private static void far() {
        DUE.promise(4);
        PointsHome x = new PointsHome();
        for (int i = 0; i < 6; i++) {
            x.place(0, 9);
        }
        DUE.is("far(2, 2)", x.far(2, 2), 0);
        DUE.is("far(0, 1)", x.far(0, 1), -2);
        x.rail(0, 1, 9, 1);
        x.rail(1, 2, 4, 1);
        x.rail(3, 4, 2, 1);
        DUE.is("far(0, 2)", x.far(0, 2), 13);
        DUE.is("far(2, 0)", x.far(2, 0), 13);
        DUE.is("far(0, 3)", x.far(0, 3), -2);
        x.rail(2, 3, 1, 1);
        DUE.is("far(4, 0)", x.far(4, 0), 16);
        x.rail(0, 4, 3, 1);
        DUE.is("far(0, 2) round the other way", x.far(0, 2), 6);
        DUE.is("far(0, 1) is still the rail", x.far(0, 1), 9);
        x.rail(2, 3, 9, 1);
        DUE.is("far(0, 2): the least told counts", x.far(0, 2), 6);
        DUE.is("far(0, 5)", x.far(0, 5), -2);
        DUE.is("far(0, 6)", x.far(0, 6), -1);
        DUE.is("far(6, 0)", x.far(6, 0), -1);
        DUE.is("far(-1, 0)", x.far(-1, 0), -1);
        DUE.is("far(0, -1)", x.far(0, -1), -1);
        PointsHome y = new PointsHome();
        for (int i = 0; i < 20; i++) {
            y.place(0, 9);
        }
        for (int i = 0; i < 19; i++) {
            y.rail(i, i + 1, 9, 1);
        }
        DUE.is("the farthest", y.far(0, 19), 171);
    }

    private static void days() {
        DUE.promise(5);
        PointsHome x = new PointsHome();
        DUE.is("days(0)", x.days(0), -1);
        DUE.is("days(-1)", x.days(-1), -1);
        DUE.is("days(61)", x.days(61), -1);
        DUE.is("days(MAX)", x.days(Integer.MAX_VALUE), -1);
        DUE.is("days(MIN)", x.days(Integer.MIN_VALUE), -1);
        DUE.is("days(1)", x.days(1), 1);
        for (int d = 61; d <= 661; d += 60) {
            DUE.is("days(60)", x.days(60), d);
        }
        DUE.is("days(40) beyond 700", x.days(40), -1);
        DUE.is("count(5)", x.count(5), 661);
        DUE.is("days(39)", x.days(39), 700);
        DUE.is("days(1) beyond 700", x.days(1), -1);
        DUE.is("count(5)", x.count(5), 700);
        // Days go by one by one: a train comes, a sick man is well.
        PointsHome y = new PointsHome();
        y.place(0, 9);
        y.place(0, 9);
        y.rail(0, 1, 4, 9);
        y.man(-1, 0, 20, 0);
        y.man(-1, 0, 20, 0);
        y.train(0, 1);
        y.sick(1, 5);
        y.days(3);
        DUE.is("on the train", y.ofBody(0, 4), 1);
        y.days(1);
        DUE.is("come", y.ofBody(0, 4), 0);
        DUE.is("sick", y.ofBody(1, 4), 3);
        y.days(1);
        DUE.is("well", y.ofBody(1, 4), 0);
    }
}
