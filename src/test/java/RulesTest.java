/** Promises 21 to 26: the tape, rules, judging. */
public final class RulesTest {
    private static final Due DUE = new Due();
    private static final int VOID = PointsHome.VOID;

    public static void main(String[] args) {
        feed();
        end();
        rule();
        faults();
        depths();
        inForce();
        judgedByText();
        judgedByPlaceAndDay();
        tried();
        DUE.end("RulesTest");
    }

    private static void feed() {
        DUE.promise(21);
        PointsHome x = new PointsHome();
        for (int n = 20; n <= 240; n += 20) {
            DUE.is("feed", x.feed(0, -1, 2, Integer.MIN_VALUE, 5), n);
        }
        DUE.is("feed when full", x.feed(0, 0, 0, 0, 0), -3);
        DUE.is("count(7)", x.count(7), 240);
        x.end(221);
        DUE.is("feed when 221 are there", x.feed(0, 0, 0, 0, 0), -3);
        x.end(220);
        DUE.is("feed when 220 are there", x.feed(0, 0, 0, 0, 0), 240);
        // The highest byte first, the numbers in their order: "scor" "e 12" "34/5" "6+ag" "e   ".
        PointsHome y = new PointsHome();
        y.place(0, 9);
        y.man(-1, 0, 20, 0);
        DUE.is("feed", y.feed(0x73636f72, 0x65203132, 0x33342f35, 0x362b6167, 0x65202020), 20);
        DUE.is("rule(0)", y.rule(0), 0);
        DUE.is("its score", y.judged(0, 0, 0, 0), 1234 / 56 + 20);
    }

    private static void end() {
        DUE.promise(22);
        PointsHome x = new PointsHome();
        DUE.is("end(0)", x.end(0), 0);
        DUE.is("end(1)", x.end(1), -1);
        x.feed(1, 2, 3, 4, 5);
        DUE.is("end(21)", x.end(21), -1);
        DUE.is("end(-1)", x.end(-1), -1);
        DUE.is("end(MAX)", x.end(Integer.MAX_VALUE), -1);
        DUE.is("end(20)", x.end(20), 20);
        DUE.is("end(7)", x.end(7), 7);
        DUE.is("count(7)", x.count(7), 7);
        DUE.is("end(8)", x.end(8), -1);
        DUE.is("feed goes on from there", x.feed(1, 2, 3, 4, 5), 27);
    }

    private static void rule() {
        DUE.promise(23);
        PointsHome x = new PointsHome();
        x.days(5);
        Due.type(x, "score 1");
        DUE.is("rule(4): behind", x.rule(4), -1);
        DUE.is("rule(701)", x.rule(701), -1);
        DUE.is("rule(-1)", x.rule(-1), -1);
        DUE.is("the tape stays", x.count(7), 7);
        DUE.is("rule(5)", x.rule(5), 0);
        DUE.is("the tape is empty", x.count(7), 0);
        DUE.is("rule(5) of nothing", x.rule(5), -100);
        DUE.is("rule(700)", Due.rule(x, "low 3", 700), 1);
        DUE.is("a fault", Due.rule(x, "low low", 700), -104);
        DUE.is("the tape is empty", x.count(7), 0);
        DUE.is("count(4)", x.count(4), 2);
        for (int i = 2; i < 20; i++) {
            DUE.is("rule", Due.rule(x, "port 3", 5), i);
        }
        DUE.is("rule when full", Due.rule(x, "low 3", 5), -3);
        DUE.is("the tape stays", x.count(7), 5);
        DUE.is("bad rule when full", x.rule(4), -1);
        DUE.is("faulty rule when full", Due.rule(x, "lo", 5), -3);
        // A text of all 240 bytes.
        PointsHome y = new PointsHome();
        StringBuilder s = new StringBuilder("low 1");
        while (s.length() < 239) {
            s.append("+1");
        }
        s.append(' ');
        y.place(0, 9);
        y.man(-1, 0, 20, 0);
        DUE.is("240 bytes", Due.rule(y, s.toString(), 0), 0);
        DUE.is("its low", y.judged(0, 0, 0, 1), 118);
        DUE.is("240 signs", Due.rule(y, times(";", 240), 0), -100);
        DUE.is("forty lines and no more", Due.rule(y, "low 1;" + times("low 1;", 39), 0), -100 - 240);
        DUE.is("a fault in the last byte", Due.rule(y, s.substring(0, 239) + "+", 0), -100 - 240);
        DUE.is("a fault in the last byte", Due.rule(y, s.substring(0, 239) + "(", 0), -100 - 239);
    }

    private static void faults() {
        DUE.promise(23);
        String[] sound = {
            "score 0", "score 9999", "score0", "  score  months ", "low age", "stay 1<2", "stay not 1<2", "port 3", "port 0003", "port 3 if 1=1",
            "score 1 if 1>2 or 3<4 and 5=6", "score 1;low 2;stay 3=4;port 5", "score(1)", "score((1)+2)*3", "stay[1=1]",
            "stay[not[1=1]or 2=2]and 3>(4)", "score 1if 2=2", "port 3if 2=2or 3=3", "stay(1)=1", "score 0001", "low 1/0-2*3+4",
            "score months+wounds+medals+children+battles+craft+age+land+bride+day", "stay not not[not 1=1]", "score 1 if not 1=2and not 2=3",
            "stay 1+2*3<4/5-6 ", "port 9999", "low 5;low 6;low 7", "score 1 ; score 2"
        };
        for (String text : sound) {
            PointsHome x = new PointsHome();
            DUE.is("rule of \"" + text + "\"", Due.rule(x, text, 0), 0);
        }
        Object[][] faulty = {
            {"", 0}, {"   ", 3}, {"x", 0}, {"  x", 2}, {";", 0}, {"5", 0}, {"score", 5}, {"score  ", 7}, {"score;", 5}, {"score 1;", 8}, {"score 1; ", 9},
            {"score 1 2", 8}, {"score 1 months", 8}, {"score 12345", 6}, {"score 00001", 6}, {"score 1+", 8}, {"score +1", 6}, {"score -1", 6},
            {"score 1 if", 10}, {"score 1 if 2", 12}, {"score 1 if 2;", 12}, {"score 1 if 2<", 13}, {"score 1 if 2<3<4", 14}, {"score 1 if 2<3 if", 15},
            {"score 1<2", 7}, {"score 1 and 2", 8}, {"score 1)", 7}, {"score (1", 8}, {"score (1;", 8}, {"score ()", 7}, {"score (1]", 8}, {"score [1]", 6},
            {"low 1 if 2=2", 6}, {"low", 3}, {"low if", 4}, {"stay", 4}, {"stay 1", 6}, {"stay 1=", 7}, {"stay 1==2", 7}, {"stay 1=2 if", 9},
            {"stay [1=2", 9}, {"stay [1=2)", 9}, {"stay 1=2]", 8}, {"stay (1=2)", 7}, {"stay [1]", 7}, {"stay [1=1]=1", 10}, {"stay not", 8},
            {"stay not 1", 10}, {"stay 1 and 2=2", 7}, {"stay 1=1 and", 12}, {"stay or", 5}, {"stay 1=1 or or", 12}, {"stay 1=1 not", 9},
            {"port", 4}, {"port months", 5}, {"port 12345", 5}, {"port (3)", 5}, {"port 3+1", 6}, {"port 3 if", 9}, {"port 3 if 4", 11}, {"port 3 4", 7},
            {"scores 1", 0}, {"scor 1", 0}, {"Score 1", 0}, {"scorE 1", 0}, {"score 1,", 7}, {"score month", 6}, {"score monthss", 6}, {"scoremonths", 0},
            {"score if", 6}, {"score score", 6}, {"score 1 score 2", 8}, {"score 1;;", 8}, {"score 1 if [2=2", 15}, {"score 1\t", 7}, {"score 1\n", 7},
            {"score \u00e9", 6}, {"score \u0000", 6}, {"\u00ff", 0}, {"score 1 if 1=1 and (2", 21}, {"score 2(3)", 7}, {"score (2)(3)", 9}, {"score (2)3", 9},
            {"score (2)months", 9}, {"score months months", 13}, {"score monthswounds", 6}, {"score 1 if 1=1 else", 15}, {"low 1234 5", 9}
        };
        for (Object[] f : faulty) {
            PointsHome x = new PointsHome();
            DUE.is("rule of \"" + f[0] + "\"", Due.rule(x, (String) f[0], 0), -100 - (Integer) f[1]);
            DUE.is("no rule came", x.count(4), 0);
        }
    }

    private static String times(String s, int n) {
        StringBuilder out = new StringBuilder();
        for (int i = 0; i < n; i++) {
            out.append(s);
        }
        return out.toString();
    }

    private static void depths() {
        DUE.promise(23);
        PointsHome x = new PointsHome();
        x.place(0, 9);
        x.man(-1, 0, 20, 0);
        DUE.is("eight (", Due.rule(x, "score " + times("(", 8) + "7" + times(")", 8), 0), 0);
        DUE.is("nine (", Due.rule(x, "score " + times("(", 9) + "7" + times(")", 9), 0), -100 - 14);
        DUE.is("eight [", Due.rule(x, "stay " + times("[", 8) + "1=1" + times("]", 8), 0), 1);
        DUE.is("nine [", Due.rule(x, "stay " + times("[", 9) + "1=1" + times("]", 9), 0), -100 - 13);
        DUE.is("eight not", Due.rule(x, "stay " + times("not ", 8) + "1=1", 0), 2);
        DUE.is("nine not", Due.rule(x, "stay " + times("not ", 9) + "1=1", 0), -100 - 37);
        DUE.is("eight not, then (", Due.rule(x, "stay " + times("not ", 8) + "(1)=1", 0), -100 - 37);
        DUE.is("eight not, then [", Due.rule(x, "stay " + times("not ", 8) + "[1=1]", 0), -100 - 37);
        DUE.is("seven not, then ( on both sides", Due.rule(x, "stay " + times("not ", 7) + "(1)=(1)", 0), 3);
        DUE.is("eight in a row beside eight", Due.rule(x, "score " + times("(", 8) + "1" + times(")", 8) + "+" + times("(", 8) + "2" + times(")", 8), 0), 4);
        DUE.is("nots that are shut", Due.rule(x, "stay " + times("not 1=2 and ", 12) + "not 3=4", 0), 5);
        DUE.is("mixed", Due.rule(x, "score 1 if not[not[(((2*(1+1))))=4]]", 0), 6);
        DUE.is("it holds", x.judged(0, 0, 0, 0), 1);
        DUE.is("not in [ in ( can't be", Due.rule(x, "stay [not [not [not [not [(1)=1]]]]]", 0), -100 - 25);
    }

    private static void inForce() {
        DUE.promise(24);
        PointsHome x = new PointsHome();
        for (int i = 0; i < 4; i++) {
            x.place(0, 9);
        }
        x.rail(0, 1, 3, 1);
        x.rail(1, 2, 4, 1);
        DUE.is("none", x.inForce(0, 700, 700), -2);
        Due.rule(x, "low 1", 0);
        x.days(5);
        Due.rule(x, "low 2", 8);
        Due.rule(x, "low 3", 6);
        DUE.is("at 0 on 0", x.inForce(0, 0, 0), 0);
        DUE.is("at 1 on 0 as known on 2", x.inForce(1, 0, 2), -2);
        DUE.is("at 1 on 0 as known on 3", x.inForce(1, 0, 3), 0);
        DUE.is("at 2 as known on 6", x.inForce(2, 6, 6), -2);
        DUE.is("at 2 as known on 7", x.inForce(2, 6, 7), 0);
        DUE.is("at 0 on 5 as known on 5", x.inForce(0, 5, 5), 0);
        DUE.is("at 0 on 6 as known on 5", x.inForce(0, 6, 5), 2);
        DUE.is("at 0 on 6 as known on 4", x.inForce(0, 6, 4), 0);
        DUE.is("made last, not from the later day", x.inForce(0, 9, 5), 2);
        DUE.is("at 1 as known on 7", x.inForce(1, 9, 7), 0);
        DUE.is("at 1 as known on 8", x.inForce(1, 9, 8), 2);
        DUE.is("never where no rail goes", x.inForce(3, 700, 700), -2);
        x.rail(3, 0, 9, 1);
        DUE.is("by the new rail", x.inForce(3, 700, 700), 2);
        int[][] bad = {{4, 0, 0}, {-1, 0, 0}, {0, -1, 0}, {0, 701, 0}, {0, 0, -1}, {0, 0, 701}, {0, Integer.MAX_VALUE, 0}, {0, 0, Integer.MIN_VALUE}};
        for (int[] b : bad) {
            DUE.is("inForce(" + b[0] + ", " + b[1] + ", " + b[2] + ")", x.inForce(b[0], b[1], b[2]), -1);
        }
    }

    /** The score of a man of 33 years and craft 4, of 20 months, a wound, two medals, three children, four battles, a bride, in land 7, on day 9. */
    private static int scoreOf(String sum) {
        return verdict("score " + sum, 0);
    }

    private static int verdict(String text, int what) {
        PointsHome x = new PointsHome();
        x.place(71, 9);
        x.place(0, 9);
        x.place(1, 9);
        x.man(-1, 4, 33, 0);
        x.bride(0);
        x.days(9);
        x.entry(0, 0, -591, 0);
        for (int sort = 1; sort <= 4; sort++) {
            for (int i = 0; i < sort; i++) {
                x.entry(0, sort, 0, 0);
            }
        }
        DUE.is("rule of " + text, Due.rule(x, text, 9), 0);
        return x.judged(0, 9, 9, what);
    }

    private static void judgedByText() {
        DUE.promise(25);
        Object[][] sums = {
            {"months", 20}, {"wounds", 1}, {"medals", 2}, {"children", 3}, {"battles", 4}, {"craft", 4}, {"age", 33}, {"land", 7}, {"bride", 1}, {"day", 9},
            {"1+2*3", 7}, {"(1+2)*3", 9}, {"9-4-3", 2}, {"9-(4-3)", 8}, {"100/10/5", 2}, {"100/(10/5)", 50}, {"2*7/3", 4}, {"7/3*2", 4}, {"7/2", 3}, {"(0-7)/2", -3},
            {"7/(0-2)", -3}, {"5/0", 0}, {"0/0", 0}, {"5/(3-3)+1", 1}, {"9999*9999*9999", (int) (9999L * 9999 * 9999)},
            {"0-9999*9999*99", (int) -(9999L * 9999 * 99)}, {"1-2-3*4/5", -3}, {"0007", 7},
            {"(0-2048*1024*1024)/(0-1)", Integer.MIN_VALUE}, {"2047*1024*1024+1023*1024+1023+1", Integer.MIN_VALUE},
            {"1 if 1<2", 1}, {"1 if 2<2", 0}, {"1 if 2=2", 1}, {"1 if 2>2", 0}, {"1 if 3>2", 1}, {"1 if 0-1<0", 1},
            {"1 if 1=1 or 1=1 and 1=2", 1}, {"1 if [1=1 or 1=1] and 1=2", 0}, {"1 if 1=2 and 1=2 or 1=1", 1}, {"1 if 1=2 and [1=2 or 1=1]", 0},
            {"1 if not 1=1 or 1=1", 1}, {"1 if not [1=1 or 1=1]", 0}, {"1 if not 1=2 and 1=2", 0}, {"1 if not not 1=1", 1},
            {"1 if 1+1=2", 1}, {"1 if 2*3>5-0", 1}, {"5;score 6", 11}, {"5 if 1=2;score 6 if 1=1;score 7", 13}, {"5;low 3;score 1-3", 3},
            {"9999*9999*20;score 9999*9999*20", 2 * 9999 * 9999 * 20}
        };
        for (Object[] s : sums) {
            DUE.is("score " + s[0], scoreOf((String) s[0]), (Integer) s[1]);
        }
        DUE.is("no low line", verdict("score 1", 1), 999);
        DUE.is("the last low line", verdict("low 5;low 6;score 9;low 0-7", 1), -7);
        DUE.is("stays by none", verdict("score 1", 2), 0);
        DUE.is("stays by one of two", verdict("stay craft=4;stay craft=5", 2), 1);
        DUE.is("stays by the other", verdict("stay craft=5;stay craft=4", 2), 1);
        DUE.is("doesn't stay", verdict("stay craft=5;stay craft=6", 2), 0);
        DUE.is("port 2", verdict("port 2", 3), 2);
        DUE.is("no port line", verdict("score 1", 3), -1);
        DUE.is("a camp is no port", verdict("port 1", 3), -1);
        DUE.is("no such place", verdict("port 3", 3), -1);
        DUE.is("far from any place", verdict("port 9999", 3), -1);
        DUE.is("the first port line that holds", verdict("port 0 if age<33;port 2 if age=33;port 0", 3), 2);
        DUE.is("the first one counts, port or not", verdict("port 1;port 2", 3), -1);
        DUE.is("the first one counts, also if it is 0", verdict("port 0;port 2", 3), 0);
        DUE.is("none holds", verdict("port 0 if age<33;port 2 if age>33", 3), -1);
        DUE.is("out: score is low", verdict("score 5;low 5", 4), 1);
        DUE.is("out: score is above", verdict("score 6;low 5", 4), 1);
        DUE.is("not out: below", verdict("score 4;low 5", 4), 0);
        DUE.is("not out: stays", verdict("score 6;low 5;stay 1=1", 4), 0);
        DUE.is("not out without low", verdict("score 998", 4), 0);
        DUE.is("out at 999", verdict("score 999", 4), 1);
        DUE.is("the rule", verdict("score 999", 5), 0);
    }

    private static void judgedByPlaceAndDay() {
        DUE.promise(25);
        PointsHome x = new PointsHome();
        x.place(11, 9);
        x.place(21, 9);
        x.place(30, 9);
        x.rail(0, 1, 2, 9);
        x.rail(1, 2, 3, 9);
        x.man(-1, 0, 20, 1);
        int[] none = {0, 999, 0, -1, 0, -1};
        for (int what = 0; what <= 5; what++) {
            DUE.is("without a rule: " + what, x.judged(0, 0, 0, what), none[what]);
            DUE.is("without a rule: 1" + what, x.judged(0, 0, 0, 10 + what), none[what]);
        }
        int[][] bad = {{-1, 0, 0, 0}, {1, 0, 0, 0}, {0, -1, 0, 0}, {0, 701, 0, 0}, {0, 0, -1, 0}, {0, 0, 701, 0}, {0, 0, 0, -1}, {0, 0, 0, 6}, {0, 0, 0, 9},
            {0, 0, 0, 16}, {0, 0, 0, Integer.MAX_VALUE}, {0, 0, 0, Integer.MIN_VALUE}};
        for (int[] b : bad) {
            DUE.is("judged(" + b[0] + ", " + b[1] + ", " + b[2] + ", " + b[3] + ")", x.judged(b[0], b[1], b[2], b[3]), VOID);
        }
        Due.rule(x, "score months*100+wounds*10+land;low day", 0);
        x.entry(0, 0, -300, 0);
        x.entry(0, 1, -5, 9);
        DUE.is("at 1 on 0: not heard", x.judged(0, 0, 0, 5), -1);
        DUE.is("by the office", x.judged(0, 0, 0, 15), 0);
        DUE.is("as known on 2", x.judged(0, 0, 2, 0), 1002);
        DUE.is("for day 60, as known on 2", x.judged(0, 60, 2, 0), 1202);
        DUE.is("the day is the one judged for", x.judged(0, 60, 2, 1), 60);
        x.days(4);
        DUE.is("train(0, 2)", x.train(0, 2), 7);
        x.days(1);
        x.prove(1);
        Due.rule(x, "score 7", 5);
        // He left 1 on day 4: what came later doesn't reach him, nor his file; the office has it.
        DUE.is("away: rule", x.judged(0, 20, 20, 5), 0);
        DUE.is("away: score", x.judged(0, 20, 20, 0), 1002);
        DUE.is("away: as known ahead of that", x.judged(0, 20, 1, 5), -1);
        DUE.is("office: rule", x.judged(0, 20, 20, 15), 1);
        DUE.is("office: score by the first rule", x.judged(0, 4, 5, 10), 1012);
        x.days(2);
        // At 2 now: rule 0 is heard there from 5 on, rule 1 from 10.
        DUE.is("come: rule", x.judged(0, 9, 9, 5), 0);
        DUE.is("come: score", x.judged(0, 9, 9, 0), 1013);
        DUE.is("come: as known on 10", x.judged(0, 9, 10, 5), 1);
        DUE.is("come: as known on 4", x.judged(0, 9, 4, 5), -1);
        x.sick(0, 3);
        DUE.is("sick: as at a place", x.judged(0, 9, 10, 5), 1);
        x.lost(0, 6);
        DUE.is("dead on 7: rule", x.judged(0, 9, 10, 5), 0);
        DUE.is("dead on 7: the office", x.judged(0, 9, 10, 15), 1);
        // Not scored: never out.
        DUE.is("man", x.man(-1, 0, 20, 0), 1);
        Due.rule(x, "score 5;low 4", 7);
        DUE.is("out", x.judged(1, 7, 7, 4), 1);
        x.files(1, 0, 0, 1);
        DUE.is("not scored", x.judged(1, 7, 7, 4), 0);
        DUE.is("not scored, by the office", x.judged(1, 7, 7, 14), 0);
        DUE.is("his score is told", x.judged(1, 7, 7, 0), 5);
        // Home: judged by the port that he left, on the day on which he was loaded.
        PointsHome y = new PointsHome();
        y.place(11, 9);
        y.man(-1, 0, 20, 0);
        Due.rule(y, "score 1;low 1", 0);
        y.ship(0, 1, 2);
        y.load(0, 0);
        y.days(1);
        Due.rule(y, "score 2;low 1", 1);
        DUE.is("in port aboard", y.judged(0, 1, 1, 0), 1);
        DUE.is("by the office", y.judged(0, 1, 1, 10), 2);
        y.sail(0, 0);
        y.days(2);
        DUE.is("home", y.ofBody(0, 4), 4);
        DUE.is("home: score", y.judged(0, 3, 3, 0), 1);
        DUE.is("gone: score", gone(), 1);
        // Dead on a train: he left when the train did; dead aboard: when he was loaded.
        PointsHome z = new PointsHome();
        z.place(11, 9);
        z.place(11, 9);
        z.rail(0, 1, 9, 9);
        Due.rule(z, "score 1+bride;low 1", 0);
        z.man(-1, 0, 20, 0);
        z.man(-1, 0, 20, 0);
        z.bride(1);
        z.ship(0, 1, 2);
        z.days(2);
        z.train(0, 1);
        z.load(1, 0);
        z.days(1);
        Due.rule(z, "score 5;low 1", 3);
        z.days(1);
        z.lost(0, 6);
        z.lost(1, 6);
        DUE.is("dead on a train", z.judged(0, 9, 9, 0), 1);
        DUE.is("dead aboard", z.judged(1, 9, 9, 0), 2);
        DUE.is("known there then", z.judged(1, 9, 1, 5), 0);
        DUE.is("by the office", z.judged(1, 9, 9, 10), 5);
    }

    private static int gone() {
        PointsHome x = new PointsHome();
        x.place(11, 9);
        x.man(-1, 0, 20, 0);
        Due.rule(x, "score 1;low 1", 0);
        x.lost(0, 5);
        x.days(1);
        Due.rule(x, "score 2;low 1", 1);
        return x.judged(0, 1, 1, 0);
    }

    private static void tried() {
        DUE.promise(26);
        PointsHome x = new PointsHome();
        x.place(11, 99);
        x.place(11, 99);
        x.rail(0, 1, 9, 9);
        for (int i = 0; i < 6; i++) {
            x.man(-1, 0, 20 + i, i % 2);
        }
        Due.rule(x, "score age;low 24", 600);
        DUE.is("tried(0, 0)", x.tried(0, 0), 2);
        DUE.is("tried(0, 1): no rule in force", x.tried(0, 1), 2);
        DUE.is("tried(0, 2)", x.tried(0, 2), 0);
        Due.rule(x, "score 0-age;low 0-22", 0);
        DUE.is("tried(0, 1)", x.tried(0, 1), 2);
        DUE.is("tried(0, 2)", x.tried(0, 2), 3);
        DUE.is("tried(1, 0)", x.tried(1, 0), 3);
        DUE.is("tried(1, 1)", x.tried(1, 1), 0);
        DUE.is("tried(1, 2)", x.tried(1, 2), 0);
        x.files(5, 0, 0, 1);
        DUE.is("one isn't scored", x.tried(0, 0), 1);
        DUE.is("train", x.train(0, 1), 9);
        DUE.is("one on a train counts", x.tried(1, 0), 3);
        x.sick(1, 1);
        DUE.is("a sick one counts", x.tried(1, 0), 3);
        x.lost(1, 6);
        DUE.is("a dead one doesn't", x.tried(1, 0), 2);
        x.lost(2, 5);
        DUE.is("a gone one doesn't", x.tried(1, 0), 1);
        Due.rule(x, "score age;low 0;stay age>23", 0);
        DUE.is("who stays isn't out", x.tried(2, 0), 2);
        DUE.is("tried(1, 2)", x.tried(1, 2), 1);
        int[][] bad = {{3, 0}, {-1, 0}, {0, -1}, {0, 3}, {Integer.MAX_VALUE, 0}};
        for (int[] b : bad) {
            DUE.is("tried(" + b[0] + ", " + b[1] + ")", x.tried(b[0], b[1]), -1);
        }
        // Home: no more; aboard: still. The file is as known today, away or not.
        PointsHome y = new PointsHome();
        y.place(1, 9);
        y.man(-1, 0, 20, 0);
        Due.rule(y, "low 0", 0);
        Due.rule(y, "score wounds;low 1", 9);
        y.ship(0, 1, 2);
        y.load(0, 0);
        y.days(1);
        y.entry(0, 1, 0, 0);
        DUE.is("aboard", y.tried(1, 0), 1);
        y.sail(0, 0);
        y.days(2);
        DUE.is("home", y.tried(1, 0), 0);
    }
}
