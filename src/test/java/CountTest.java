/** Promises 57 and 58: check and count. */
public final class CountTest {
    private static final Due DUE = new Due();

    public static void main(String[] args) {
        check();
        count();
        DUE.end("CountTest");
    }

    private static void check() {
        DUE.promise(57);
        PointsHome x = new PointsHome();
        DUE.is("new", x.check(), 0);
        x.place(1, 2);
        x.place(1, 2);
        x.rail(0, 1, 1, 9);
        x.man(-1, 0, 20, 0);
        x.man(-1, 0, 20, 0);
        x.guard(0, 0);
        x.guard(1, 1);
        DUE.is("guards that ask for nobody", x.check(), 0);
        x.need(2, 0, 2);
        DUE.is("two of two", x.check(), 0);
        x.need(3, 9, 1);
        DUE.is("none of craft 9 at 1", x.check(), 3);
        x.man(-1, 9, 20, 1);
        DUE.is("one of craft 9", x.check(), 0);
        x.sick(0, 1);
        DUE.is("a sick one doesn't guard", x.check(), 3);
        x.days(1);
        DUE.is("well again", x.check(), 0);
        x.lost(0, 5);
        DUE.is("one ran off", x.check(), 3);
        x.need(2, 0, 1);
        DUE.is("one is enough", x.check(), 0);
        // Beds and berths are never overdrawn, whatever comes.
        Due.rule(x, "low 0", 1);
        x.need(2, 0, 0);
        x.ship(0, 1, 2);
        x.fill(0);
        DUE.is("a full ship", x.check(), 0);
        x.need(2, 0, 1);
        DUE.is("who is aboard doesn't guard", x.check(), 3);
        // One on a train guards neither place.
        PointsHome y = new PointsHome();
        y.place(0, 2);
        y.place(0, 2);
        y.rail(0, 1, 1, 1);
        y.man(-1, 0, 20, 0);
        y.guard(1, 0);
        y.need(1, 0, 1);
        y.train(0, 1);
        DUE.is("on the way", y.check(), 3);
        y.days(1);
        DUE.is("come", y.check(), 0);
    }

    private static void count() {
        DUE.promise(58);
        PointsHome x = new PointsHome();
        for (int b : new int[] {-1, 16, Integer.MAX_VALUE, Integer.MIN_VALUE}) {
            DUE.is("count(" + b + ")", x.count(b), -1);
        }
        x.place(1, 9);
        x.place(1, 9);
        x.rail(0, 1, 9, 9);
        x.body(4);
        Due.rule(x, "low 0", 0);
        for (int i = 0; i < 8; i++) {
            x.man(-1, i % 2, 20, 0);
        }
        x.bride(1);
        x.ship(0, 1, 2);
        x.ship(0, 1, 5);
        x.load(1, 0);
        x.load(2, 1);
        x.sail(0, 0);
        x.days(2);
        x.train(3, 1);
        x.sick(4, 9);
        x.lost(5, 5);
        x.lost(6, 6);
        x.entry(1, 1, 0, 0);
        x.entry(1, 1, 0, 3);
        x.entry(1, 1, 0, 3);
        x.feed(0, 0, 0, 0, 0);
        x.end(17);
        x.act(0, 3, 1);
        int[] want = {2, 10, 8, 3, 1, 2, 2, 17, 2, 1, 1, 1, 1, 1, 1, 5};
        for (int what = 0; what <= 15; what++) {
            DUE.is("count(" + what + ")", x.count(what), want[what]);
        }
    }
}
