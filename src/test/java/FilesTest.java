/** Promises 15 to 20: entries, papers, what is known, doubles, rows of files. */
public final class FilesTest {
    private static final Due DUE = new Due();

    public static void main(String[] args) {
        entry();
        prove();
        known();
        doubles();
        files();
        filesByBlanks();
        filesThatEnd();
        blank();
        DUE.end("FilesTest");
    }

    private static PointsHome camp(int men) {
        PointsHome x = new PointsHome();
        x.place(0, 999);
        for (int i = 0; i < men; i++) {
            x.man(-1, 0, 20, 0);
        }
        return x;
    }

    private static void entry() {
        DUE.promise(15);
        PointsHome x = camp(2);
        x.body(4);
        x.days(3);
        DUE.is("entry(0, 0, -2000, 0)", x.entry(0, 0, -2000, 0), 1);
        DUE.is("entry(1, 4, 3, 99999)", x.entry(1, 4, 3, 99999), 2);
        DUE.is("entry(1, 3, 0, 1)", x.entry(1, 3, 0, 1), 3);
        int[][] bad = {{2, 0, 0, 0}, {3, 0, 0, 0}, {-1, 0, 0, 0}, {0, -1, 0, 0}, {0, 5, 0, 0}, {0, 0, -2001, 0}, {0, 0, 4, 0},
            {0, 0, 0, -1}, {0, 0, 0, 100000}, {0, 0, Integer.MIN_VALUE, 0}, {0, 0, 0, Integer.MAX_VALUE}};
        for (int[] b : bad) {
            DUE.is("entry(" + b[0] + ", " + b[1] + ", " + b[2] + ", " + b[3] + ")", x.entry(b[0], b[1], b[2], b[3]), -1);
        }
        DUE.is("count(3)", x.count(3), 3);
        for (int i = 4; i <= 600; i++) {
            DUE.is("entry", x.entry(i % 2, 1, -i, 0), i);
        }
        DUE.is("entry when full", x.entry(0, 1, 0, 0), -3);
        DUE.is("bad entry when full", x.entry(0, 5, 0, 0), -1);
        DUE.is("count(3)", x.count(3), 600);
        DUE.is("wounds of 0", x.known(0, 1, 3), 299);
        DUE.is("wounds of 1", x.known(1, 1, 3), 298);
        x.lost(0, 6);
        DUE.is("months of the dead", x.known(0, 0, 3), 66);
        // All entries of the last man that can be.
        PointsHome y = camp(200);
        for (int i = 1; i <= 600; i++) {
            DUE.is("entry", y.entry(199, i == 1 ? 0 : 4, -30, 0), i);
        }
        DUE.is("battles of 199", y.known(199, 4, 0), 599);
        DUE.is("months of 199", y.known(199, 0, 0), 1);
    }

    private static void prove() {
        DUE.promise(16);
        PointsHome x = camp(1);
        x.entry(0, 1, -5, 0);
        x.entry(0, 1, -5, 7);
        x.entry(0, 2, -5, 7);
        DUE.is("prove(0): plain", x.prove(0), -2);
        DUE.is("prove(-1)", x.prove(-1), -1);
        DUE.is("prove(3)", x.prove(3), -1);
        DUE.is("prove(MAX)", x.prove(Integer.MAX_VALUE), -1);
        x.days(10);
        DUE.is("prove(1)", x.prove(1), 1);
        DUE.is("prove(1) again", x.prove(1), -2);
        DUE.is("wounds on 9", x.known(0, 1, 9), 1);
        DUE.is("wounds on 10", x.known(0, 1, 10), 2);
        DUE.is("medals on 700", x.known(0, 2, 700), 0);
        x.days(5);
        DUE.is("prove(1) later", x.prove(1), -2);
        DUE.is("prove(2)", x.prove(2), 1);
        DUE.is("medals on 14", x.known(0, 2, 14), 0);
        DUE.is("medals on 15", x.known(0, 2, 15), 1);
    }

    private static void known() {
        DUE.promise(17);
        PointsHome x = camp(2);
        x.days(40);
        x.entry(0, 0, 10, 0);
        x.entry(0, 0, -20, 5);
        x.entry(0, 0, -50, 6);
        x.entry(0, 3, 12, 0);
        x.days(20);
        x.prove(1);
        // Told on 40, so it isn't known on 39; TRUE goes by when it was so.
        DUE.is("months on 39", x.known(0, 0, 39), 0);
        DUE.is("months on 40", x.known(0, 0, 40), 1);
        DUE.is("months on 59", x.known(0, 0, 59), 1);
        DUE.is("months on 60: proved", x.known(0, 0, 60), 2);
        DUE.is("months on 69", x.known(0, 0, 69), 2);
        DUE.is("months on 70", x.known(0, 0, 70), 3);
        DUE.is("months on 700", x.known(0, 0, 700), 24);
        DUE.is("true months on 0", x.known(0, 10, 0), 1);
        DUE.is("true months on 9", x.known(0, 10, 9), 1);
        DUE.is("true months on 10", x.known(0, 10, 10), 2);
        DUE.is("children on 39", x.known(0, 3, 39), 0);
        DUE.is("children on 40", x.known(0, 3, 40), 1);
        DUE.is("true children on 11", x.known(0, 13, 11), 0);
        DUE.is("true children on 12", x.known(0, 13, 12), 1);
        DUE.is("of another man", x.known(1, 0, 700), 0);
        int[][] bad = {{2, 0, 0}, {-1, 0, 0}, {0, -1, 0}, {0, 5, 0}, {0, 9, 0}, {0, 15, 0}, {0, 0, -1}, {0, 0, 701},
            {0, Integer.MIN_VALUE, 0}, {0, Integer.MAX_VALUE, 0}, {0, 0, Integer.MAX_VALUE}};
        for (int[] b : bad) {
            DUE.is("known(" + b[0] + ", " + b[1] + ", " + b[2] + ")", x.known(b[0], b[1], b[2]), -1);
        }
        for (int sort = 1; sort <= 4; sort++) {
            for (int i = 0; i < sort; i++) {
                x.entry(1, sort, -i, 0);
            }
        }
        for (int sort = 1; sort <= 4; sort++) {
            DUE.is("known(1, " + sort + ", 60)", x.known(1, sort, 60), sort);
            DUE.is("true", x.known(1, 10 + sort, 0), sort);
        }
        // A man who is away is known all the same; only his judging stops.
        x.lost(0, 5);
        x.days(1);
        x.prove(2);
        DUE.is("months of the gone", x.known(0, 0, 100), 5);
    }

    private static void doubles() {
        DUE.promise(18);
        PointsHome x = camp(5);
        DUE.is("doubles(0)", x.doubles(0), 0);
        DUE.is("doubles(1): none", x.doubles(1), -2);
        DUE.is("doubles(2): none", x.doubles(2), -2);
        DUE.is("doubles(-1)", x.doubles(-1), -1);
        DUE.is("doubles(3)", x.doubles(3), -1);
        x.entry(1, 1, 0, 0);
        x.entry(2, 1, 0, 0);
        x.entry(4, 1, 0, 8);
        x.entry(4, 2, 0, 8);
        x.entry(3, 2, 0, 9);
        DUE.is("plain ones, one man's, unlike papers", x.doubles(0), 0);
        x.entry(0, 2, 0, 9);
        DUE.is("doubles(0)", x.doubles(0), 1);
        DUE.is("doubles(1)", x.doubles(1), 0);
        DUE.is("doubles(2)", x.doubles(2), 3);
        x.entry(2, 1, 0, 8);
        DUE.is("doubles(0): two more", x.doubles(0), 3);
        DUE.is("doubles(1): the lesser entry is first", x.doubles(1), 2);
        DUE.is("doubles(2)", x.doubles(2), 4);
        x.entry(1, 1, 0, 8);
        DUE.is("doubles(0): three more", x.doubles(0), 6);
        DUE.is("doubles(1): then the greater", x.doubles(1), 2);
        x.prove(2);
        DUE.is("proved ones count too", x.doubles(0), 6);
        PointsHome y = camp(2);
        y.entry(1, 1, 0, 8);
        y.entry(0, 1, 0, 8);
        DUE.is("of entries 0 and 1", y.doubles(0), 1);
        DUE.is("doubles(1)", y.doubles(1), 0);
        DUE.is("doubles(2)", y.doubles(2), 1);
        PointsHome z = camp(2);
        while (z.count(3) < 600) {
            z.entry(0, 1, 0, 8);
        }
        DUE.is("none of 600", z.doubles(1), -2);
    }

    private static void put(PointsHome x, int shelf, int sort, int... v) {
        x.row(shelf, sort, v.length);
        for (int i = 0; i < v.length; i++) {
            x.put(shelf, i, v[i]);
        }
    }

    private static void files() {
        DUE.promise(19);
        PointsHome x = camp(1);
        x.body(4);
        put(x, 0, 0, 9, 0, 66, 1, 1, 2, 3, 4, 0, 9, 2, 1, 0);
        DUE.is("files(0, 0, 1, 3)", x.files(0, 0, 1, 3), 3);
        DUE.is("months", x.known(0, 0, 0), 66);
        DUE.is("wounds", x.known(0, 1, 0), 3);
        DUE.is("battles", x.known(0, 4, 0), 9);
        DUE.is("entries", x.count(3), 13);
        DUE.is("scored", x.ofBody(0, 7), 0);
        DUE.is("files(0, 0, 10, 1): none of a kind is whole", x.files(0, 0, 10, 1), 1);
        DUE.is("entries", x.count(3), 13);
        put(x, 1, 1, 3, 20, 2);
        DUE.is("of shorts", x.files(0, 1, 0, 1), 1);
        DUE.is("children", x.known(0, 3, 0), 2);
        DUE.is("when it was so: -600", x.known(0, 13, 0), 2);
        int[][] bad = {{1, 0, 0, 1}, {2, 0, 0, 1}, {-1, 0, 0, 1}, {0, 8, 0, 1}, {0, -1, 0, 1}, {0, 0, 0, 0}, {0, 0, 0, 21}, {0, 0, -1, 0}};
        for (int[] b : bad) {
            DUE.is("files(" + b[0] + ", " + b[1] + ", " + b[2] + ", " + b[3] + ")", x.files(b[0], b[1], b[2], b[3]), -1);
        }
        for (int sort = 2; sort <= 4; sort++) {
            x.row(2, sort, 9);
            DUE.is("a row of sort " + sort, x.files(0, 2, 0, 1), -12);
        }
        x.keep(2, 1);
        DUE.is("a body", x.files(0, 2, 0, 1), -12);
        DUE.is("refused ones leave him scored", x.ofBody(0, 7), 0);
        x.row(3, 0, 60);
        DUE.is("twenty threes", x.files(0, 3, 0, 20), 20);
        DUE.is("entries", x.count(3), 15);
    }

    private static void filesByBlanks() {
        DUE.promise(19);
        PointsHome x = new PointsHome();
        x.place(0, 99);
        x.body(4);
        for (int i = 0; i < 5; i++) {
            x.man(i < 4 ? 0 : -1, 0, 20, 0);
        }
        put(x, 0, 0, -1, -1, -1);
        DUE.is("all blank", x.files(1, 0, 0, 1), 1);
        DUE.is("sort 0, month 0, one", x.count(3), 1);
        DUE.is("months", x.known(1, 10, 30), 1);
        x.entry(2, 0, -300, 0);
        x.entry(3, 0, -600, 0);
        x.entry(4, 0, -900, 55);
        x.entry(5, 0, -1500, 0);
        // Known of the unit: 0 (man 1), 10, 20: the middle one is 10. The claimed one and the other unit don't count.
        put(x, 0, 1, 1, -1, 1, 0, -1, 1);
        DUE.is("a wound by the middle month", x.files(4, 0, 0, 2), 2);
        DUE.is("true wounds", x.known(4, 11, 0), 1);
        DUE.is("he came over by it", x.known(4, 0, 0), 10);
        // Now 0, 10, 10, 20: the lower of the two in the middle is 10.
        x.entry(1, 0, -1200, 0);
        // 10, 10, 20, 40: the lower is 10; with 40 more it is 20.
        put(x, 0, 0, 0, -1, 1);
        DUE.is("files(1, ..)", x.files(1, 0, 0, 1), 1);
        DUE.is("months of 1 stay 40", x.known(1, 0, 0), 40);
        x.entry(2, 0, -1200, 0);
        DUE.is("a new man of the unit", x.man(0, 0, 20, 0), 6);
        DUE.is("files(6, ..)", x.files(6, 0, 0, 1), 1);
        DUE.is("of 10, 20, 40, 40 the lower: 20", x.known(6, 0, 0), 20);
        // A man without a unit stands alone.
        DUE.is("files(5, ..)", x.files(5, 0, 0, 1), 1);
        DUE.is("months of 5", x.known(5, 0, 0), 50);
        x.man(-1, 0, 20, 0);
        DUE.is("files(7, ..)", x.files(7, 0, 0, 1), 1);
        DUE.is("months of 7", x.known(7, 0, 0), 0);
        // Never above 66.
        x.days(60);
        x.entry(7, 0, -2000, 0);
        DUE.is("months of 7", x.known(7, 0, 60), 68);
        DUE.is("files(7, ..) by 66", x.files(7, 0, 0, 1), 1);
        DUE.is("scored", x.ofBody(7, 7), 0);
        // The first body of all may come to a unit later.
        PointsHome y = camp(1);
        y.body(4);
        y.unit(0, 1);
        y.man(1, 0, 20, 0);
        y.entry(0, 0, -90, 0);
        put(y, 0, 0, 0, -1, 1);
        y.files(2, 0, 0, 1);
        DUE.is("by man 0", y.known(2, 0, 0), 3);
        // Each three sees those ahead of it.
        x.man(-1, 0, 20, 0);
        put(x, 0, 0, 0, 30, 1, 1, -1, 2);
        x.row(1, 0, 3);
        DUE.is("files(8, ..)", x.files(8, 0, 0, 2), 2);
        DUE.is("wounds of 8", x.known(8, 1, 60), 2);
    }

    /** No range is told of the place: ahead of its first element, too, the row is missing. */
    private static void placesBelowZero(PointsHome x) {
        int many = x.count(3);
        for (int i : new int[] {-1, -2, -3, Integer.MIN_VALUE}) {
            for (int shelf : new int[] {0, 7}) {
                x.files(1, 0, 0, 1);
                many++;
                DUE.is("scored", x.ofBody(1, 7), 0);
                DUE.is("shelf " + shelf + " from " + i + " on", x.files(1, shelf, i, 2), 0);
                DUE.is("not scored", x.ofBody(1, 7), 1);
                DUE.is("entries", x.count(3), many);
            }
        }
        x.files(1, 0, 0, 1);
        x.row(5, 2, 9);
        DUE.is("a row of ints from -1 on", x.files(1, 5, -1, 1), -12);
        DUE.is("scored still", x.ofBody(1, 7), 0);
    }

    private static void filesThatEnd() {
        DUE.promise(19);
        PointsHome x = camp(3);
        DUE.is("nothing on the shelf", x.files(0, 7, 0, 2), 0);
        DUE.is("not scored", x.ofBody(0, 7), 1);
        put(x, 0, 0, 1, 1, 1, 2, 2, 2, 3, 3);
        DUE.is("ends within a three", x.files(0, 0, 0, 3), 2);
        DUE.is("not scored", x.ofBody(0, 7), 1);
        DUE.is("what came ahead stays", x.known(0, 2, 0), 2);
        DUE.is("comes whole", x.files(0, 0, 0, 2), 2);
        DUE.is("scored again", x.ofBody(0, 7), 0);
        DUE.is("starts behind the end", x.files(0, 0, 8, 1), 0);
        DUE.is("not scored", x.ofBody(0, 7), 1);
        DUE.is("starts far behind", x.files(1, 0, Integer.MAX_VALUE, 20), 0);
        DUE.is("not scored", x.ofBody(1, 7), 1);
        placesBelowZero(x);
        DUE.is("missing again", x.files(1, 7, 0, 1), 0);
        int[][] wrong = {{5, 0, 1}, {-2, 0, 1}, {0, 67, 1}, {0, -2, 1}, {0, 0, 10}, {0, 0, -2}};
        int many = x.count(3);
        for (int[] w : wrong) {
            put(x, 1, 0, 4, 4, 1, w[0], w[1], w[2], 4, 4, 1);
            DUE.is("files with " + w[0] + " " + w[1] + " " + w[2], x.files(2, 1, 0, 3), 1);
            many++;
            DUE.is("entries", x.count(3), many);
            DUE.is("not scored", x.ofBody(2, 7), 1);
            DUE.is("whole", x.files(2, 1, 0, 1), 1);
            many++;
            DUE.is("scored", x.ofBody(2, 7), 0);
        }
        // Full: it ends, but he stays as he was.
        while (x.count(3) < 592) {
            x.entry(0, 1, 0, 0);
        }
        put(x, 1, 0, 1, 1, 5, 1, 1, 4, 1, 1, 1);
        DUE.is("too little room for the second", x.files(2, 1, 0, 3), 1);
        DUE.is("none of it comes", x.count(3), 597);
        DUE.is("he stays scored", x.ofBody(2, 7), 0);
        put(x, 1, 0, 1, 1, 3);
        DUE.is("just enough room", x.files(2, 1, 0, 1), 1);
        DUE.is("entries", x.count(3), 600);
        DUE.is("no room", x.files(1, 1, 0, 1), 0);
        DUE.is("no row came whole", x.ofBody(1, 7), 1);
        put(x, 1, 0, 1, 1, 0);
        DUE.is("none needs no room", x.files(1, 1, 0, 1), 1);
        DUE.is("whole", x.ofBody(1, 7), 0);
        put(x, 1, 0, 5, 1, 9);
        DUE.is("wrong ahead of full", x.files(1, 1, 0, 1), 0);
        DUE.is("not scored", x.ofBody(1, 7), 1);
    }

    private static void blank() {
        DUE.promise(20);
        PointsHome x = camp(1);
        DUE.is("blank(MIN)", x.blank(Integer.MIN_VALUE), -1);
        DUE.is("blank(300)", x.blank(300), Integer.MIN_VALUE);
        put(x, 0, 1, 300, 300, 300);
        DUE.is("300 in shorts is blank", x.files(0, 0, 0, 1), 1);
        DUE.is("one came", x.count(3), 1);
        put(x, 0, 0, 300, 0, 1);
        DUE.is("300 in bytes is 44", x.files(0, 0, 0, 1), 0);
        put(x, 0, 0, -1, 0, 1);
        DUE.is("-1 is no blank now", x.files(0, 0, 0, 1), 0);
        DUE.is("blank(2)", x.blank(2), 300);
        put(x, 0, 0, 2, 5, 2);
        DUE.is("2 is blank", x.files(0, 0, 0, 1), 1);
        DUE.is("so no medal", x.known(0, 2, 0), 0);
        DUE.is("but one more entry", x.count(3), 2);
        DUE.is("months", x.known(0, 0, 0), 5);
        DUE.is("blank(2)", x.blank(2), 2);
    }
}
