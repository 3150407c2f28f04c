import java.lang.reflect.Method;
import java.util.ArrayList;
import java.util.HashMap;
import java.util.List;
import java.util.Map;
import java.util.Random;

/** Long random runs of calls, each answer held against the one of Model. Arguments: how many runs, the first seed. */
public final class ModelTest {
    private static final Map<String, Method> OURS = new HashMap<>(), THEIRS = new HashMap<>();

    private final Random random;
    private final PointsHome ours = new PointsHome();
    private final Model model = new Model();
    private final TextMaker texts;
    private final List<String> calls = new ArrayList<>();
    private final int seed;

    static final class Differs extends RuntimeException {
        private static final long serialVersionUID = 1L;
        Differs(String text) {
            super(text);
        }
    }

    private ModelTest(int seed) {
        this.seed = seed;
        random = new Random(seed * 7919L + 13);
        texts = new TextMaker(random);
    }

    public static void main(String[] args) throws Exception {
        int runs = args.length > 0 ? Integer.parseInt(args[0]) : 2500;
        int first = args.length > 1 ? Integer.parseInt(args[1]) : 1;
        for (Method m : PointsHome.class.getDeclaredMethods()) {
            OURS.put(m.getName(), m);
        }
        for (Method m : Model.class.getDeclaredMethods()) {
            Method old = THEIRS.get(m.getName());
            Method wanted = OURS.get(m.getName());
            if (wanted != null && java.util.Arrays.equals(m.getParameterTypes(), wanted.getParameterTypes())) {
                THEIRS.put(m.getName(), m);
                m.setAccessible(true);
            } else if (old == null) {
                continue;
            }
        }
        long[] asked = new long[1];
        int wrong = 0;
        for (int seed = first; seed < first + runs && wrong < 3; seed++) {
            ModelTest run = new ModelTest(seed);
            try {
                run.go();
            } catch (Differs d) {
                wrong++;
                System.out.println("seed " + seed + ": " + d.getMessage());
                int from = Math.max(0, run.calls.size() - (args.length > 2 ? 1000 : 12));
                for (String c : run.calls.subList(from, run.calls.size())) {
                    System.out.println("    " + c);
                }
            }
            asked[0] += run.calls.size();
        }
        System.out.println(runs + " runs, " + asked[0] + " calls, " + wrong + " runs went wrong");
        if (wrong > 0) {
            System.exit(1);
        }
    }

    // ---- calling both

    private long call(String name, Object... args) {
        StringBuilder text = new StringBuilder(name).append("(");
        for (int i = 0; i < args.length; i++) {
            text.append(i > 0 ? ", " : "").append(args[i]);
        }
        text.append(")");
        try {
            long want = ((Number) THEIRS.get(name).invoke(model, args)).longValue();
            long got;
            try {
                got = ((Number) OURS.get(name).invoke(ours, args)).longValue();
            } catch (java.lang.reflect.InvocationTargetException e) {
                throw new Differs(text + " threw " + e.getCause());
            }
            calls.add(text + " = " + got);
            if (got != want) {
                throw new Differs(text + " answered " + got + ", the model " + want);
            }
            return got;
        } catch (ReflectiveOperationException e) {
            throw new IllegalStateException(text.toString(), e);
        }
    }

    // ---- arguments

    private int r(int n) {
        return random.nextInt(n);
    }

    /** Mostly within, sometimes one beside it or far off. */
    private int near(int least, int most) {
        int k = r(40);
        if (k == 0) {
            return least - 1;
        }
        if (k == 1) {
            return most + 1;
        }
        if (k == 2) {
            int[] wild = {Integer.MIN_VALUE, Integer.MAX_VALUE, -1, -2, 1000, 256, -100, 65536, Integer.MAX_VALUE - 1};
            return wild[r(wild.length)];
        }
        if (k == 3) {
            return least;
        }
        if (k == 4) {
            return most;
        }
        return most < least ? least : least + r(most - least + 1);
    }

    private int place() {
        return near(0, model.places.size() - 1);
    }

    private int port() {
        for (int i = 0; i < 6; i++) {
            int p = place();
            if (model.isPort(p)) {
                return p;
            }
        }
        return place();
    }

    private int body() {
        return near(0, model.bodies.size() - 1);
    }

    private int man() {
        if (r(30) == 0) {
            return body();
        }
        for (int i = 0; i < 12; i++) {
            int b = r(Math.max(1, model.bodies.size()));
            if (model.isMan(b) && (r(3) == 0 || model.bodies.get(b).what < 4)) {
                return b;
            }
        }
        return body();
    }

    private int manAtPort(int ship) {
        for (int i = 0; i < 20 && model.isShip(ship); i++) {
            int m = man();
            if (model.isMan(m) && model.bodies.get(m).what == 0 && model.bodies.get(m).where == model.ships.get(ship).port) {
                return m;
            }
        }
        return man();
    }

    private int bodyOfKind(int least) {
        for (int i = 0; i < 12; i++) {
            int b = r(Math.max(1, model.bodies.size()));
            if (model.isBody(b) && model.bodies.get(b).kind >= least) {
                return b;
            }
        }
        return body();
    }

    private int guardBody() {
        for (int i = 0; i < 12; i++) {
            int b = bodyOfKind(5);
            if (model.isBody(b) && model.bodies.get(b).kind != 6) {
                return b;
            }
        }
        return body();
    }

    private int unitArg() {
        return r(4) == 0 ? -1 : bodyOfKind(4);
    }

    private int ship() {
        return near(0, model.ships.size() - 1);
    }

    private int shelf() {
        return near(0, 7);
    }

    private int craft() {
        return r(3) > 0 ? r(3) : near(0, 9);
    }

    private int someDay() {
        return r(3) == 0 ? near(0, 700) : near(Math.max(0, model.day - 12), Math.min(700, model.day + 12));
    }

    private int anyInt() {
        switch (r(4)) {
            case 0: return random.nextInt();
            case 1: return r(20) - 10;
            case 2: return Integer.MAX_VALUE - r(3);
            default: return r(1000);
        }
    }

    // ---- the run

    private void go() {
        int profile = r(8);
        int n = profile == 7 ? 1500 : 430;
        begin(profile);
        for (int i = 0; i < n; i++) {
            step(profile);
            if (r(60) == 0) {
                sweep();
            }
        }
        sweep();
    }

    private void begin(int profile) {
        if (r(10) == 0) {
            return;
        }
        int places = 1 + r(6);
        for (int i = 0; i < places; i++) {
            call("place", 10 * r(9) + (i < 2 ? r(3) > 0 ? 1 : 0 : r(2)), profile == 7 ? 200 : 1 + r(r(3) == 0 ? 4 : 60));
        }
        for (int i = 0; i < places; i++) {
            call("rail", r(places), r(places), 1 + r(4), 1 + r(5));
        }
        int units = 1 + r(3);
        for (int i = 0; i < units; i++) {
            call("body", 4);
        }
        if (r(4) > 0) {
            makeRule(texts.likely(), 0);
        }
        int men = 5 + r(25);
        for (int i = 0; i < men; i++) {
            long m = call("man", unitArg(), craft(), 17 + r(44), r(places));
            if (m >= 0 && r(4) > 0) {
                call("entry", (int) m, 0, -r(700), r(4) == 0 ? 1 + r(4) : 0);
            }
        }
        int ships = r(4);
        for (int i = 0; i < ships; i++) {
            call("ship", port(), 1 + r(r(3) == 0 ? 60 : 8), 2 + r(7));
        }
    }

    private void makeRule(String text, int from) {
        call("end", 0);
        StringBuilder s = new StringBuilder(text);
        while (s.length() % 20 != 0) {
            s.append(' ');
        }
        for (int i = 0; i < s.length(); i += 20) {
            Object[] words = new Object[5];
            for (int w = 0; w < 5; w++) {
                int v = 0;
                for (int k = 0; k < 4; k++) {
                    v = v << 8 | s.charAt(i + 4 * w + k);
                }
                words[w] = v;
            }
            call("feed", words);
        }
        call("end", text.length());
        call("rule", from);
    }

    private void step(int profile) {
        int k = r(100);
        if (profile == 7 && k < 50) {
            crowd();
        } else if (profile == 1 && k < 75) {
            travel();
        } else if (profile == 2 && k < 70) {
            rules();
        } else if (profile == 3 && k < 75) {
            plans();
        } else if (profile == 4 && k < 75) {
            shelves();
        } else if (profile == 5 && k < 75) {
            papers();
        } else {
            switch (r(7)) {
                case 0: travel(); break;
                case 1: rules(); break;
                case 2: plans(); break;
                case 3: shelves(); break;
                case 4: papers(); break;
                case 5: people(); break;
                default: travel();
            }
        }
    }

    private void crowd() {
        switch (r(6)) {
            case 0: call("man", unitArg(), craft(), near(17, 60), place()); break;
            case 1: call("body", new int[] {0, 4, 6}[r(3)]); break;
            case 2: call("entry", man(), near(0, 4), -r(2000), r(3) == 0 ? 1 + r(9) : 0); break;
            case 3: call("place", 10 * r(9) + r(2), near(1, 999)); break;
            case 4: call("ship", port(), near(1, 60), near(2, 30)); break;
            default:
                if (r(4) == 0) {
                    makeRule(texts.likely(), model.day);
                } else {
                    fullRow();
                }
        }
    }

    private void fullRow() {
        int shelf = r(8);
        int threes = 1 + r(12);
        call("row", shelf, r(2), threes * 3);
        for (int i = 0; i < threes * 3; i++) {
            call("put", shelf, i, (long) (i % 3 == 0 ? r(5) : i % 3 == 1 ? r(67) : r(10)));
        }
        call("files", man(), shelf, 0, threes);
    }

    private void people() {
        switch (r(14)) {
            case 0: call("place", near(0, 82), near(1, 999)); break;
            case 1: call("rail", place(), place(), near(1, 9), near(1, 99)); break;
            case 2: call("far", place(), place()); break;
            case 3: call("body", near(0, 7)); break;
            case 4: call("man", unitArg(), craft(), near(17, 60), place()); break;
            case 5: call("bride", man()); break;
            case 6: call("guard", place(), near(0, 1)); break;
            case 7: call("need", guardBody(), craft(), r(3) > 0 ? r(3) : near(0, 9)); break;
            case 8: call("unit", man(), unitArg()); break;
            case 9: call("ofBody", body(), near(0, 9)); break;
            case 10: call("sick", man(), near(1, r(3) == 0 ? 60 : 6)); break;
            case 11: call("lost", man(), near(5, 6)); break;
            case 12: call("check"); break;
            default: call("count", near(0, 15));
        }
    }

    private void travel() {
        int ship = ship();
        switch (r(18)) {
            case 0: case 1: call("train", man(), place()); break;
            case 2: call("ship", port(), near(1, r(2) == 0 ? 8 : 60), near(2, r(2) == 0 ? 6 : 30)); break;
            case 3: call("repair", ship, near(model.day, Math.min(700, model.day + 8))); break;
            case 4: call("why", manAtPort(ship), ship); break;
            case 5: call("next", ship); break;
            case 6: case 7: call("load", manAtPort(ship), ship); break;
            case 8: call("fill", ship); break;
            case 9: case 10: call("sail", ship, port()); break;
            case 11: call("ofShip", ship, near(0, 6)); break;
            case 12: case 13: call("days", r(5) == 0 ? near(1, 60) : 1 + r(4)); break;
            case 14: call("man", unitArg(), craft(), near(17, 60), r(2) == 0 ? place() : port()); break;
            case 15: call("need", guardBody(), craft(), r(3)); break;
            case 16: call("lost", man(), near(5, 6)); break;
            default: call("sick", man(), near(1, 6));
        }
    }

    private void rules() {
        switch (r(12)) {
            case 0: makeRule(texts.likely(), near(model.day, Math.min(700, model.day + 5))); break;
            case 1: makeRule(texts.sound(), near(model.day, Math.min(700, model.day + 5))); break;
            case 2: makeRule(texts.broken(), near(model.day, 700)); break;
            case 3: makeRule(r(2) == 0 ? texts.anything() : texts.deep(), near(model.day, 700)); break;
            case 4: call("inForce", place(), someDay(), someDay()); break;
            case 5: case 6: case 7: call("judged", man(), someDay(), someDay(), r(2) == 0 ? near(0, 5) : near(10, 15)); break;
            case 8: call("tried", near(0, model.rules.size() - 1), near(0, 2)); break;
            case 9: call("feed", anyInt(), anyInt(), anyInt(), anyInt(), anyInt()); break;
            case 10: call("end", near(0, model.tape.length())); break;
            default: call("days", near(1, 3));
        }
    }

    private void plans() {
        switch (r(14)) {
            case 0: case 1: call("post", place(), r(8) == 0 ? near(0, 1000) : 100 * craft() + 10 * (1 + r(3)) + r(10)); break;
            case 2: case 3: call("ready", man()); break;
            case 4:
                call("relief");
                for (int i = -1; i < 9; i++) {
                    call("relieved", i);
                }
                break;
            case 5: call("turn", 0, ship()); break;
            case 6: call("turn", r(9) == 0 ? near(0, 1) : 1, r(9) == 0 ? anyInt() : 1000 * port() + (r(3) == 0 ? r(1000) : r(30))); break;
            case 7:
                call("voyages", r(2) == 0 ? near(1, 200) : near(1, 60));
                for (int i = -1; i < 10; i++) {
                    call("voyage", i);
                }
                break;
            case 8: case 9: call("shut", place(), r(8) == 0 ? anyInt() : 1000 * near(1, 20) + (r(2) == 0 ? near(1, 999) : 1 + r(3)), campBits()); break;
            case 10:
                call("bread");
                for (int i = -1; i < 9; i++) {
                    call("order", i);
                }
                break;
            case 11: call("have", near(0, 99), r(2) == 0 ? near(0, 199) : r(12)); break;
            case 12: call("berths", near(0, 3), near(0, 7), r(3) == 0 ? near(0, 9999) : near(0, 200)); break;
            default: call("line", near(0, 7), near(1, 4), near(1, 4));
        }
    }

    private int campBits() {
        if (r(12) == 0) {
            return near(0, 256);
        }
        int bits = 0;
        for (int i = 0; i < 8; i++) {
            if (i != model.camps.size() && r(5) == 0 && (i < model.camps.size() || r(6) == 0)) {
                bits |= 1 << i;
            }
        }
        return bits;
    }

    private void shelves() {
        switch (r(12)) {
            case 0: case 1: call("act", body(), near(0, 3), anyInt()); break;
            case 2:
                for (int i = -1; i < 16; i++) {
                    call("trace", i);
                }
                break;
            case 3: call("keep", shelf(), r(4) == 0 ? -1 : body()); break;
            case 4: call("row", shelf(), near(0, 4), r(3) == 0 ? near(0, 90) : r(14)); break;
            case 5: case 6: call("put", shelf(), near(0, 13), r(2) == 0 ? random.nextLong() : (long) (r(600) - 300)); break;
            case 7: call("element", shelf(), near(0, 13)); break;
            case 8: case 9: call("shift", shelf(), near(0, 8), shelf(), near(0, 8), near(0, 8)); break;
            case 10: call("taken", shelf(), near(0, 7)); break;
            default: call("act", bodyOfKind(4), near(0, 3), anyInt());
        }
    }

    private void papers() {
        switch (r(12)) {
            case 0: case 1: call("entry", man(), near(0, 4), near(Math.max(-2000, model.day - 900), model.day), r(2) == 0 ? 0 : r(6) == 0 ? near(0, 99999) : 1 + r(5)); break;
            case 2: case 3: call("prove", near(0, model.entries.size() - 1)); break;
            case 4: case 5: call("known", man(), r(2) == 0 ? near(0, 4) : near(10, 14), someDay()); break;
            case 6: call("doubles", near(0, 2)); break;
            case 7: case 8: rowOfFiles(); break;
            case 9: call("blank", r(3) == 0 ? anyInt() : r(3) - 1); break;
            case 10: call("unit", man(), unitArg()); break;
            default: call("days", near(1, 9));
        }
    }

    private void rowOfFiles() {
        int shelf = r(8);
        if (r(5) > 0) {
            int n = r(16);
            call("row", shelf, r(9) == 0 ? r(5) : r(2), n);
            for (int i = 0; i < n; i++) {
                int good = i % 3 == 0 ? r(5) : i % 3 == 1 ? r(67) : r(4);
                call("put", shelf, i, (long) (r(4) == 0 ? model.blank : r(15) == 0 ? near(0, 67) : good));
            }
        }
        call("files", man(), r(20) == 0 ? shelf() : shelf, r(3) > 0 ? 0 : near(0, 12), r(3) > 0 ? 1 + r(4) : near(1, 20));
    }

    /** Every thing that can be asked, by all numbers. */
    private void sweep() {
        for (int b = -1; b <= model.bodies.size(); b++) {
            for (int what = -1; what <= 10; what++) {
                call("ofBody", b, what);
            }
        }
        for (int s = -1; s <= model.ships.size(); s++) {
            for (int what = -1; what <= 7; what++) {
                call("ofShip", s, what);
            }
        }
        for (int what = -1; what <= 16; what++) {
            call("count", what);
        }
        for (int what = -1; what <= 3; what++) {
            call("doubles", what);
        }
        for (int i = 0; i < 10; i++) {
            call("judged", man(), someDay(), someDay(), r(16));
            call("known", man(), r(15), someDay());
        }
        for (int shelf = 0; shelf < 8; shelf++) {
            for (int i = 0; i < 6; i++) {
                call("element", shelf, i);
            }
        }
        call("check");
    }
}
