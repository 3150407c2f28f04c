/** Promises 27 to 35: trains, ships, who may go, what happens at sea. */
public final class ShipsTest {
    private static final Due DUE = new Due();
    private static final int VOID = PointsHome.VOID;

    public static void main(String[] args) {
        train();
        ship();
        repair();
        why();
        next();
        load();
        fill();
        sail();
        sickAtSea();
        ofShip();
        DUE.end("ShipsTest");
    }

    private static void train() {
        DUE.promise(27);
        PointsHome x = new PointsHome();
        x.place(0, 9);
        x.place(0, 2);
        x.place(0, 9);
        x.rail(0, 1, 4, 9);
        x.rail(1, 2, 1, 1);
        for (int i = 0; i < 5; i++) {
            x.man(-1, 0, 20, 0);
        }
        x.body(0);
        int[][] bad = {{5, 1}, {6, 1}, {-1, 1}, {0, 3}, {0, -1}, {0, Integer.MAX_VALUE}, {Integer.MIN_VALUE, 0}};
        for (int[] b : bad) {
            DUE.is("train(" + b[0] + ", " + b[1] + ")", x.train(b[0], b[1]), -1);
        }
        DUE.is("no rail to 2", x.train(0, 2), -2);
        DUE.is("none to where he is", x.train(0, 0), -2);
        x.days(3);
        DUE.is("train(0, 1)", x.train(0, 1), 7);
        DUE.is("already on a train", x.train(0, 1), -2);
        DUE.is("train(1, 1)", x.train(1, 1), 7);
        DUE.is("no bed: two are on the way", x.train(2, 1), -2);
        x.lost(0, 6);
        DUE.is("a dead man's bed is free", x.train(2, 1), 7);
        x.sick(3, 9);
        x.lost(1, 6);
        DUE.is("the sick don't go", x.train(3, 1), -2);
        x.guard(0, 0);
        x.need(6, 0, 1);
        DUE.is("the needed don't go", x.train(4, 1), -2);
        x.need(6, 0, 0);
        DUE.is("train(4, 1)", x.train(4, 1), 7);
        x.days(4);
        DUE.is("come", x.ofBody(4, 4), 0);
        DUE.is("train(4, 2)", x.train(4, 2), 8);
        DUE.is("no seat", x.train(2, 2), -2);
        x.days(1);
        DUE.is("a seat the day after", x.train(2, 2), 9);
        DUE.is("both ways together", x.train(4, 1), -2);
        x.lost(4, 5);
        DUE.is("the gone don't go", x.train(4, 1), -2);
        // One who was refused takes no seat.
        PointsHome y = new PointsHome();
        y.place(0, 9);
        y.place(0, 1);
        y.rail(0, 1, 1, 1);
        y.man(-1, 0, 20, 0);
        y.man(-1, 0, 20, 1);
        DUE.is("no bed", y.train(0, 1), -2);
        y.lost(1, 5);
        DUE.is("the seat is free still", y.train(0, 1), 1);
        // By the RAIL, not by the way that is shorter; beyond day 700 too.
        PointsHome z = new PointsHome();
        z.place(0, 9);
        z.place(0, 9);
        z.place(0, 9);
        z.rail(0, 1, 9, 9);
        z.rail(0, 2, 1, 9);
        z.rail(2, 1, 1, 9);
        z.man(-1, 0, 20, 0);
        for (int i = 0; i < 11; i++) {
            z.days(60);
        }
        z.days(39);
        DUE.is("far", z.far(0, 1), 2);
        DUE.is("train on 699", z.train(0, 1), 708);
        DUE.is("till", z.ofBody(0, 6), 708);
    }

    private static PointsHome harbour(String text) {
        PointsHome x = new PointsHome();
        x.place(1, 99);
        x.place(1, 99);
        x.place(0, 99);
        x.rail(0, 1, 2, 9);
        Due.rule(x, text, 0);
        x.days(2);
        return x;
    }

    private static void ship() {
        DUE.promise(28);
        PointsHome x = harbour("low 0");
        DUE.is("ship(0, 1, 2)", x.ship(0, 1, 2), 0);
        DUE.is("ship(1, 60, 30)", x.ship(1, 60, 30), 1);
        int[][] bad = {{2, 1, 2}, {3, 1, 2}, {-1, 1, 2}, {0, 0, 2}, {0, 61, 2}, {0, 1, 1}, {0, 1, 31}, {Integer.MAX_VALUE, 1, 2}, {0, Integer.MIN_VALUE, 2}};
        for (int[] b : bad) {
            DUE.is("ship(" + b[0] + ", " + b[1] + ", " + b[2] + ")", x.ship(b[0], b[1], b[2]), -1);
        }
        for (int i = 2; i < 16; i++) {
            DUE.is("ship", x.ship(0, 5, 5), i);
        }
        DUE.is("ship when full", x.ship(0, 5, 5), -3);
        DUE.is("bad ship when full", x.ship(2, 5, 5), -1);
        DUE.is("count(6)", x.count(6), 16);
        int[] fresh = {0, 1, -1, 0, 0, -1, 0};
        for (int what = 0; what <= 6; what++) {
            DUE.is("ofShip(1, " + what + ")", x.ofShip(1, what), fresh[what]);
        }
    }

    private static void repair() {
        DUE.promise(29);
        PointsHome x = harbour("low 0");
        x.man(-1, 0, 20, 0);
        x.ship(0, 5, 3);
        int[][] bad = {{-1, 5}, {1, 5}, {0, 1}, {0, 701}, {0, Integer.MAX_VALUE}};
        for (int[] b : bad) {
            DUE.is("repair(" + b[0] + ", " + b[1] + ")", x.repair(b[0], b[1]), -1);
        }
        DUE.is("repair(0, 700)", x.repair(0, 700), 1);
        DUE.is("till 700", x.ofShip(0, 5), 700);
        DUE.is("repair(0, 5)", x.repair(0, 5), 1);
        DUE.is("till 5", x.ofShip(0, 5), 5);
        DUE.is("why 7", x.why(0, 0), 7);
        x.days(2);
        DUE.is("why on 4", x.why(0, 0), 7);
        x.days(1);
        DUE.is("why on 5", x.why(0, 0), 0);
        DUE.is("no more till", x.ofShip(0, 5), -1);
        DUE.is("repair till today", x.repair(0, 5), 1);
        DUE.is("is none", x.ofShip(0, 5), -1);
        DUE.is("load", x.load(0, 0), 1);
        DUE.is("repair with men aboard", x.repair(0, 6), 1);
        DUE.is("no sailing", x.sail(0, 0), -2);
        x.days(1);
        DUE.is("sailing", x.sail(0, 0), 9);
        DUE.is("repair at sea", x.repair(0, 20), -2);
        DUE.is("bad repair at sea", x.repair(0, 5), -1);
        x.days(3);
        DUE.is("repair on the way back", x.repair(0, 20), -2);
        x.days(3);
        DUE.is("repair in port", x.repair(0, 20), 1);
    }

    private static void why() {
        DUE.promise(30);
        PointsHome x = harbour("score age;low 20;stay craft=3;port 1 if age=40;port 2 if age=41;port 0 if age=42");
        x.ship(0, 1, 3);
        x.ship(1, 1, 3);
        x.guard(0, 0);
        int low = x.man(-1, 0, 19, 0);
        int well = x.man(-1, 0, 20, 0);
        int stays = x.man(-1, 3, 20, 0);
        int otherPort = x.man(-1, 0, 40, 0);
        int noPort = x.man(-1, 0, 41, 0);
        int thisPort = x.man(-1, 0, 42, 0);
        int elsewhere = x.man(-1, 0, 20, 1);
        int inland = x.man(-1, 0, 20, 2);
        DUE.is("below low", x.why(low, 0), 3);
        DUE.is("he may", x.why(well, 0), 0);
        DUE.is("he stays", x.why(stays, 0), 4);
        DUE.is("another port", x.why(otherPort, 0), 5);
        DUE.is("none by the rule: any", x.why(noPort, 0), 0);
        DUE.is("this port", x.why(thisPort, 0), 0);
        DUE.is("not there", x.why(elsewhere, 0), 1);
        DUE.is("there", x.why(elsewhere, 1), 0);
        DUE.is("inland", x.why(inland, 0), 1);
        int[][] bad = {{0, 0}, {9, 0}, {-1, 0}, {1, 2}, {1, -1}, {Integer.MAX_VALUE, 0}, {1, Integer.MIN_VALUE}};
        for (int[] b : bad) {
            DUE.is("why(" + b[0] + ", " + b[1] + ")", x.why(b[0], b[1]), -1);
        }
        x.need(0, 0, 5);
        DUE.is("needed", x.why(well, 0), 6);
        DUE.is("another port ahead of needed", x.why(otherPort, 0), 5);
        x.need(0, 0, 4);
        DUE.is("four of five do", x.why(well, 0), 0);
        x.repair(0, 9);
        DUE.is("repair", x.why(well, 0), 7);
        x.need(0, 0, 9);
        DUE.is("needed ahead of repair", x.why(well, 0), 6);
        x.need(0, 0, 0);
        x.repair(0, 2);
        x.load(thisPort, 0);
        DUE.is("aboard isn't at the port", x.why(thisPort, 0), 1);
        DUE.is("no berth", x.why(well, 0), 8);
        x.repair(0, 9);
        DUE.is("repair ahead of berths", x.why(well, 0), 7);
        x.repair(0, 2);
        x.files(low, 0, 0, 1);
        DUE.is("not scored ahead of low", x.why(low, 0), 2);
        x.sick(noPort, 9);
        DUE.is("the sick are not at the port (0)", x.why(noPort, 0), 1);
        DUE.is("sail", x.sail(0, 1), 5);
        DUE.is("at sea it belongs to the port of its return", x.why(well, 0), 1);
        DUE.is("who is there", x.why(elsewhere, 0), 7);
        int byOther = x.man(-1, 0, 42, 1);
        DUE.is("another port, which is 0", x.why(byOther, 1), 5);
        // By what is known at the port today: rule 1 is made on 2, and is at port 1 on 4.
        Due.rule(x, "low 100", 2);
        DUE.is("port 1 on 2", x.why(elsewhere, 1), 0);
        DUE.is("port 0 on 2", x.judged(well, 2, 2, 1), 100);
        x.days(2);
        DUE.is("port 1 on 4", x.why(elsewhere, 1), 3);
    }

    private static void next() {
        DUE.promise(31);
        PointsHome x = harbour("score age;low 20;stay craft=3");
        DUE.is("next(0): no ship", x.next(0), -1);
        x.ship(0, 2, 3);
        DUE.is("next(0): nobody", x.next(0), -2);
        DUE.is("next(1)", x.next(1), -1);
        DUE.is("next(-1)", x.next(-1), -1);
        x.man(-1, 0, 19, 0);
        DUE.is("below low", x.next(0), -2);
        x.man(-1, 0, 30, 0);
        x.man(-1, 0, 35, 0);
        x.man(-1, 0, 35, 0);
        x.man(-1, 3, 60, 0);
        x.man(-1, 0, 60, 1);
        DUE.is("the greatest, of like ones the lesser", x.next(0), 2);
        x.guard(0, 0);
        x.need(6, 0, 3);
        DUE.is("one of four may go", x.next(0), 2);
        x.need(6, 0, 4);
        DUE.is("none of four", x.next(0), -2);
        x.man(-1, 1, 25, 0);
        DUE.is("but one of another craft", x.next(0), 7);
        x.need(6, 0, 0);
        x.repair(0, 3);
        DUE.is("under repair", x.next(0), -2);
        x.repair(0, 2);
        x.load(2, 0);
        DUE.is("then the other", x.next(0), 3);
        x.load(3, 0);
        DUE.is("no berth", x.next(0), -2);
        x.sail(0, 0);
        DUE.is("at sea", x.next(0), -2);
        // Scores below 0.
        PointsHome y = harbour("score 0-age;low 0-100");
        y.ship(0, 2, 3);
        y.man(-1, 0, 50, 0);
        y.man(-1, 0, 40, 0);
        DUE.is("the greatest below 0", y.next(0), 1);
        y.lost(1, 6);
        DUE.is("man 0", y.next(0), 0);
        DUE.is("man 0 is loaded", y.fill(0), 1);
    }

    private static void load() {
        DUE.promise(32);
        PointsHome x = harbour("score age;low 20;stay craft=3;port 1 if age=40");
        x.ship(0, 2, 3);
        x.ship(0, 2, 3);
        x.man(-1, 0, 20, 0);
        x.man(-1, 0, 21, 0);
        x.man(-1, 0, 22, 0);
        x.man(-1, 0, 19, 0);
        x.man(-1, 3, 22, 0);
        x.man(-1, 0, 40, 0);
        x.man(-1, 0, 22, 1);
        x.man(-1, 5, 22, 0);
        x.man(-1, 5, 22, 0);
        x.guard(0, 0);
        x.need(9, 5, 2);
        x.files(8, 0, 0, 1);
        DUE.is("load(0, 0)", x.load(0, 0), 1);
        DUE.is("load(0, 0) again", x.load(0, 0), -21);
        DUE.is("load(0, 1)", x.load(0, 1), -21);
        DUE.is("elsewhere", x.load(6, 0), -21);
        DUE.is("not scored", x.load(8, 0), -22);
        DUE.is("low", x.load(3, 0), -23);
        DUE.is("stays", x.load(4, 0), -24);
        DUE.is("another port", x.load(5, 0), -25);
        DUE.is("needed", x.load(7, 0), -26);
        x.repair(1, 9);
        DUE.is("repair", x.load(1, 1), -27);
        DUE.is("load(1, 0)", x.load(1, 0), 2);
        DUE.is("no berth", x.load(2, 0), -28);
        int[][] bad = {{9, 0}, {10, 0}, {-1, 0}, {2, 2}, {2, -1}};
        for (int[] b : bad) {
            DUE.is("load(" + b[0] + ", " + b[1] + ")", x.load(b[0], b[1]), -1);
        }
        DUE.is("aboard", x.ofShip(0, 3), 2);
        DUE.is("men at a place", x.count(8), 7);
        DUE.is("men on a ship", x.count(10), 2);
        DUE.is("which", x.ofBody(1, 5), 0);
        // Who is aboard leaves his bed.
        PointsHome y = new PointsHome();
        y.place(1, 1);
        y.man(-1, 0, 20, 0);
        Due.rule(y, "low 0", 0);
        y.ship(0, 2, 3);
        y.load(0, 0);
        DUE.is("a bed is free", y.man(-1, 0, 20, 0), 1);
    }

    private static void fill() {
        DUE.promise(33);
        PointsHome x = harbour("score age;low 20");
        x.ship(0, 3, 3);
        DUE.is("nobody", x.fill(0), 0);
        DUE.is("fill(1)", x.fill(1), -1);
        DUE.is("fill(-1)", x.fill(-1), -1);
        for (int age : new int[] {25, 19, 40, 30, 40}) {
            x.man(-1, 0, age, 0);
        }
        x.guard(0, 0);
        x.need(5, 0, 3);
        DUE.is("two of five may go", x.fill(0), 2);
        DUE.is("the two of 40", x.ofBody(2, 4) + x.ofBody(4, 4), 4);
        DUE.is("no more", x.fill(0), 0);
        x.need(5, 0, 0);
        DUE.is("the third berth", x.fill(0), 1);
        DUE.is("for 30", x.ofBody(3, 4), 2);
        DUE.is("full", x.fill(0), 0);
        DUE.is("aboard", x.ofShip(0, 3), 3);
        x.ship(0, 60, 3);
        x.repair(1, 4);
        DUE.is("repair", x.fill(1), 0);
        x.days(2);
        DUE.is("all that may", x.fill(1), 1);
        DUE.is("25", x.ofBody(0, 5), 1);
        x.sail(0, 0);
        DUE.is("at sea", x.fill(0), 0);
        // By crafts each for itself.
        PointsHome y = harbour("score 1;low 1");
        y.ship(0, 9, 3);
        for (int i = 0; i < 6; i++) {
            y.man(-1, i % 2, 20, 0);
        }
        y.guard(0, 0);
        y.guard(0, 1);
        y.need(6, 0, 1);
        y.need(7, 0, 1);
        y.need(7, 1, 1);
        DUE.is("one of craft 0, two of craft 1", y.fill(0), 3);
        DUE.is("0 goes", y.ofBody(0, 4), 2);
        DUE.is("1 goes", y.ofBody(1, 4), 2);
        DUE.is("2 guards", y.ofBody(2, 4), 0);
        DUE.is("3 goes", y.ofBody(3, 4), 2);
        DUE.is("check", y.check(), 0);
    }

    private static void sail() {
        DUE.promise(34);
        PointsHome x = harbour("low 0");
        x.ship(0, 3, 4);
        int[][] bad = {{-1, 0}, {1, 0}, {0, 2}, {0, 3}, {0, -1}};
        for (int[] b : bad) {
            DUE.is("sail(" + b[0] + ", " + b[1] + ")", x.sail(b[0], b[1]), -1);
        }
        DUE.is("nobody aboard", x.sail(0, 1), -2);
        x.man(-1, 0, 20, 0);
        x.fill(0);
        x.repair(0, 3);
        DUE.is("under repair", x.sail(0, 1), -2);
        x.days(1);
        DUE.is("sail(0, 1)", x.sail(0, 1), 7);
        DUE.is("at sea", x.sail(0, 1), -2);
        DUE.is("bad at sea", x.sail(0, 2), -1);
        x.days(3);
        DUE.is("not home yet", x.ofBody(0, 4), 2);
        x.days(1);
        DUE.is("home", x.ofBody(0, 4), 4);
        DUE.is("back", x.ofShip(0, 0), 3);
        x.days(3);
        DUE.is("still back", x.ofShip(0, 0), 3);
        x.days(1);
        DUE.is("in port", x.ofShip(0, 0), 0);
        DUE.is("at the other port", x.ofShip(0, 1), 1);
        x.man(-1, 0, 20, 1);
        DUE.is("it turns round", x.load(1, 0), 1);
        DUE.is("sail(0, 0)", x.sail(0, 0), 15);
        // All die at sea: the empty ship goes on.
        x.lost(1, 6);
        DUE.is("nobody aboard", x.ofShip(0, 3), 0);
        x.days(4);
        DUE.is("back", x.ofShip(0, 0), 3);
        DUE.is("one brought in all", x.ofShip(0, 6), 1);
    }

    private static void sickAtSea() {
        DUE.promise(34);
        // 8 men in 8 berths: 64/32 = 2 fall sick, then 36/32 = 1, 25/32 = 0.
        PointsHome x = harbour("low 0");
        x.ship(0, 8, 4);
        for (int i = 0; i < 8; i++) {
            x.man(-1, 0, 20, 0);
        }
        DUE.is("fill", x.fill(0), 8);
        DUE.is("sail", x.sail(0, 1), 6);
        DUE.is("sick on the day of sailing", x.ofShip(0, 4), 0);
        x.days(1);
        DUE.is("sick on 3", x.ofShip(0, 4), 2);
        x.days(1);
        DUE.is("sick on 4", x.ofShip(0, 4), 3);
        x.days(1);
        DUE.is("sick on 5", x.ofShip(0, 4), 3);
        // The sick ones are the least numbers: one of them dies, then one that is well.
        x.lost(2, 6);
        DUE.is("one sick less", x.ofShip(0, 4), 2);
        x.lost(3, 6);
        DUE.is("one well less", x.ofShip(0, 4), 2);
        DUE.is("aboard", x.ofShip(0, 3), 6);
        x.days(1);
        // 5 * 2 > 6.
        DUE.is("held", x.ofShip(0, 0), 2);
        DUE.is("till", x.ofShip(0, 2), 13);
        DUE.is("to which port", x.ofShip(0, 1), 1);
        DUE.is("still aboard", x.ofBody(0, 4), 2);
        x.days(6);
        DUE.is("nobody falls sick then", x.ofShip(0, 4), 2);
        DUE.is("still held", x.ofShip(0, 0), 2);
        x.days(1);
        DUE.is("back", x.ofShip(0, 0), 3);
        DUE.is("till", x.ofShip(0, 2), 17);
        DUE.is("home", x.ofBody(0, 4), 4);
        DUE.is("brought", x.ofShip(0, 6), 6);
        DUE.is("none aboard", x.ofShip(0, 3), 0);
        DUE.is("none sick", x.ofShip(0, 4), 0);
        x.days(4);
        DUE.is("in port", x.ofShip(0, 0), 0);
        // 10 in 25: 100/100 = 1, then 81/100 = 0: 5 * 1 is not more than 10.
        PointsHome y = harbour("low 0");
        y.ship(0, 25, 3);
        for (int i = 0; i < 10; i++) {
            y.man(-1, 0, 20, 0);
        }
        y.fill(0);
        y.sail(0, 0);
        y.days(2);
        DUE.is("one sick", y.ofShip(0, 4), 1);
        y.days(1);
        DUE.is("not held", y.ofShip(0, 0), 3);
        // Exactly a fifth isn't more: 5 men of whom 1 is sick.
        PointsHome z = harbour("low 0");
        z.ship(0, 6, 2);
        for (int i = 0; i < 5; i++) {
            z.man(-1, 0, 20, 0);
        }
        z.fill(0);
        z.sail(0, 0);
        z.days(1);
        DUE.is("25/24 = 1", z.ofShip(0, 4), 1);
        z.days(1);
        DUE.is("5 * 1 is not more than 5", z.ofShip(0, 0), 3);
        // Just more: 4 men in 4 berths, one sick.
        PointsHome w = harbour("low 0");
        w.ship(0, 4, 2);
        for (int i = 0; i < 4; i++) {
            w.man(-1, 0, 20, 0);
        }
        w.fill(0);
        w.sail(0, 0);
        w.days(2);
        DUE.is("5 * 1 is more than 4", w.ofShip(0, 0), 2);
        DUE.is("home eight days later", w.days(7), 11);
        DUE.is("home", w.ofBody(3, 4), 4);
        // In port nobody falls sick.
        PointsHome v = harbour("low 0");
        v.ship(0, 2, 2);
        v.man(-1, 0, 20, 0);
        v.man(-1, 0, 20, 0);
        v.fill(0);
        v.days(30);
        DUE.is("in port", v.ofShip(0, 4), 0);
    }

    private static void ofShip() {
        DUE.promise(35);
        PointsHome x = harbour("low 0");
        x.ship(0, 10, 5);
        x.man(-1, 0, 20, 0);
        x.man(-1, 0, 20, 0);
        x.load(1, 0);
        int[] loaded = {0, 0, -1, 1, 0, -1, 0};
        int[] out = {1, 1, 7, 1, 0, -1, 0};
        int[] back = {3, 1, 12, 0, 0, -1, 1};
        int[] port = {0, 1, -1, 0, 0, -1, 1};
        told(x, loaded);
        x.sail(0, 1);
        told(x, out);
        x.days(5);
        told(x, back);
        x.days(5);
        told(x, port);
        x.repair(0, 20);
        DUE.is("ofShip(0, 5)", x.ofShip(0, 5), 20);
        int[][] bad = {{0, -1}, {0, 7}, {1, 0}, {-1, 0}, {0, Integer.MAX_VALUE}, {Integer.MIN_VALUE, 0}};
        for (int[] b : bad) {
            DUE.is("ofShip(" + b[0] + ", " + b[1] + ")", x.ofShip(b[0], b[1]), VOID);
        }
    }

    private static void told(PointsHome x, int[] want) {
        for (int what = 0; what < want.length; what++) {
            DUE.is("ofShip(0, " + what + ")", x.ofShip(0, what), want[what]);
        }
    }
}
