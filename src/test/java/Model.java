import java.util.ArrayList;
import java.util.Arrays;
import java.util.Collections;
import java.util.HashMap;
import java.util.List;
import java.util.Map;

/**
 * The document once more, written the slow and plain way with lists, to be held against PointsHome.
 * Nothing here is shared with the class under test.
 */
final class Model {
    static final int BAD = -1, NOT = -2, FULL = -3, VOID = -2000000000;

    static final class Place { int land, sort, beds; }
    static final class Rail { int days, seats, used; }
    static final class Entry { int man, sort, day, told, paper, proved = -1; }
    static final class Body {
        int kind, unit = -1, craft, age, what = -1, where = -1, till = -1, left = -1, leftOn, bride = -1;
        boolean notScored, seaSick;
        int place = -1;
        int[] needs = new int[10];
    }
    static final class Ship { int port, berths, passage, what, day = -1, repair = -1, home; }
    static final class Rule { int made, from; List<String> text; }
    static final class Verdict { int score, low = 999, port = -1, rule = -1; boolean stays, out; }

    int day;
    final List<Place> places = new ArrayList<>();
    final Map<String, Rail> rails = new HashMap<>();
    final List<Body> bodies = new ArrayList<>();
    final List<Entry> entries = new ArrayList<>();
    final List<Rule> rules = new ArrayList<>();
    final List<Ship> ships = new ArrayList<>();
    String tape = "";
    int blank = -1;
    int[][] farTable = new int[0][0];

    static boolean in(int v, int a, int b) { return a <= v && v <= b; }
    boolean isPlace(int p) { return in(p, 0, places.size() - 1); }
    boolean isPort(int p) { return isPlace(p) && places.get(p).sort == 1; }
    boolean isBody(int b) { return in(b, 0, bodies.size() - 1); }
    boolean isMan(int b) { return isBody(b) && (bodies.get(b).kind == 1 || bodies.get(b).kind == 2); }
    boolean isShip(int s) { return in(s, 0, ships.size() - 1); }
    boolean isUnit(int b) { return isBody(b) && bodies.get(b).kind >= 4; }

    // ---- places

    int place(int what, int beds) {
        if (what < 0 || what / 10 > 8 || what % 10 > 1 || !in(beds, 1, 999)) return BAD;
        if (places.size() == 20) return FULL;
        Place p = new Place();
        p.land = what / 10; p.sort = what % 10; p.beds = beds;
        places.add(p);
        farTable = floyd();
        return places.size() - 1;
    }

    static String pair(int a, int b) { return Math.min(a, b) + "-" + Math.max(a, b); }

    int rail(int a, int b, int days, int seats) {
        if (!isPlace(a) || !isPlace(b) || a == b || !in(days, 1, 9) || !in(seats, 1, 99)) return BAD;
        Rail r = rails.get(pair(a, b));
        if (r == null) { r = new Rail(); r.days = days; rails.put(pair(a, b), r); }
        r.days = Math.min(r.days, days);
        r.seats = seats;
        farTable = floyd();
        return r.days;
    }

    int[][] floyd() {
        int n = places.size();
        int[][] d = new int[n][n];
        for (int i = 0; i < n; i++) for (int j = 0; j < n; j++) {
            Rail r = rails.get(pair(i, j));
            d[i][j] = i == j ? 0 : r == null ? -1 : r.days;
        }
        for (int k = 0; k < n; k++) for (int i = 0; i < n; i++) for (int j = 0; j < n; j++)
            if (d[i][k] >= 0 && d[k][j] >= 0 && (d[i][j] < 0 || d[i][k] + d[k][j] < d[i][j])) d[i][j] = d[i][k] + d[k][j];
        return d;
    }

    int far(int a, int b) {
        if (!isPlace(a) || !isPlace(b)) return BAD;
        return farTable[a][b] < 0 ? NOT : farTable[a][b];
    }

    int days(int n) {
        if (!in(n, 1, 60) || day + n > 700) return BAD;
        for (int i = 0; i < n; i++) newDay();
        return day;
    }

    void newDay() {
        day++;
        for (Rail r : rails.values()) r.used = 0;
        for (Body b : bodies) if (b.what == 1 && b.till == day) { b.what = 0; b.left = b.where; b.till = -1; }
        for (int s = 0; s < ships.size(); s++) shipDay(s);
        for (Body b : bodies) if (b.what == 3 && b.till == day) { b.what = 0; b.till = -1; }
    }

    List<Body> aboard(int ship) {
        List<Body> list = new ArrayList<>();
        for (Body b : bodies) if (b.what == 2 && b.where == ship) list.add(b);
        return list;
    }

    int sickAboard(int ship) {
        int n = 0;
        for (Body b : aboard(ship)) if (b.seaSick) n++;
        return n;
    }

    void shipDay(int s) {
        Ship h = ships.get(s);
        if (h.what == 0) return;
        if (h.what == 1 && day < h.day) {
            List<Body> well = new ArrayList<>();
            for (Body b : aboard(s)) if (!b.seaSick) well.add(b);
            int n = well.size();
            int fall = n * n / (4 * h.berths);
            for (int i = 0; i < fall; i++) well.get(i).seaSick = true;
            return;
        }
        if (day != h.day) return;
        if (h.what == 3) { h.what = 0; h.day = -1; return; }
        if (h.what == 1 && 5 * sickAboard(s) > aboard(s).size()) { h.what = 2; h.day = day + 7; return; }
        for (Body b : aboard(s)) { b.what = 4; b.where = -1; b.seaSick = false; h.home++; }
        h.what = 3;
        h.day = day + h.passage;
    }

    // ---- bodies

    int newBody(Body b) {
        if (bodies.size() == 200) return FULL;
        bodies.add(b);
        return bodies.size() - 1;
    }

    int body(int kind) {
        if (kind != 0 && kind != 4 && kind != 6) return BAD;
        Body b = new Body();
        b.kind = kind;
        return newBody(b);
    }

    int menAt(int place) {
        int n = 0;
        for (Body b : bodies) if ((b.what == 0 || b.what == 1 || b.what == 3) && b.where == place) n++;
        return n;
    }

    int man(int unit, int craft, int age, int place) {
        if (unit != -1 && !isUnit(unit) || !in(craft, 0, 9) || !in(age, 17, 60) || !isPlace(place)) return BAD;
        if (menAt(place) >= places.get(place).beds) return NOT;
        Body b = new Body();
        b.kind = craft == 0 ? 1 : 2;
        b.unit = unit; b.craft = craft; b.age = age; b.what = 0; b.where = place; b.left = place;
        return newBody(b);
    }

    int bride(int man) {
        if (!isMan(man)) return BAD;
        if (bodies.get(man).bride != -1) return NOT;
        Body b = new Body();
        b.kind = 3;
        int n = newBody(b);
        if (n >= 0) bodies.get(man).bride = n;
        return n;
    }

    int guard(int place, int marshal) {
        if (!isPlace(place) || marshal != 0 && marshal != 1) return BAD;
        Body b = new Body();
        b.kind = marshal == 0 ? 5 : 7;
        b.place = place;
        return newBody(b);
    }

    int need(int guard, int craft, int n) {
        if (!isBody(guard) || bodies.get(guard).kind != 5 && bodies.get(guard).kind != 7) return BAD;
        if (!in(craft, 0, 9) || !in(n, 0, 9)) return BAD;
        int was = bodies.get(guard).needs[craft];
        bodies.get(guard).needs[craft] = n;
        return was;
    }

    int unit(int man, int unit) {
        if (!isMan(man) || unit != -1 && !isUnit(unit)) return VOID;
        int was = bodies.get(man).unit;
        bodies.get(man).unit = unit;
        return was;
    }

    int ofBody(int body, int what) {
        if (!isBody(body) || !in(what, 0, 9)) return VOID;
        Body b = bodies.get(body);
        if (what == 0) return b.kind;
        if (!isMan(body)) return VOID;
        return new int[] {0, b.unit, b.craft, b.age, b.what, b.where, b.till, b.notScored ? 1 : 0, b.left, b.bride}[what];
    }

    int sick(int man, int n) {
        if (!isMan(man) || !in(n, 1, 60)) return BAD;
        Body b = bodies.get(man);
        if (b.what != 0) return NOT;
        b.what = 3;
        b.till = day + n;
        return 1;
    }

    int lost(int man, int how) {
        if (!isMan(man) || how != 5 && how != 6) return BAD;
        Body b = bodies.get(man);
        if (b.what >= 4 || how == 5 && b.what != 0) return NOT;
        if (b.what == 0 || b.what == 3) b.leftOn = day;
        b.what = how;
        b.where = -1;
        b.till = day;
        b.seaSick = false;
        return 1;
    }

    // ---- files

    int entry(int man, int sort, int d, int paper) {
        if (!isMan(man) || !in(sort, 0, 4) || !in(d, -2000, day) || !in(paper, 0, 99999)) return BAD;
        if (entries.size() == 600) return FULL;
        Entry e = new Entry();
        e.man = man; e.sort = sort; e.day = d; e.told = day; e.paper = paper;
        entries.add(e);
        return entries.size();
    }

    int prove(int n) {
        if (!in(n, 0, entries.size() - 1)) return BAD;
        Entry e = entries.get(n);
        if (e.paper == 0 || e.proved >= 0) return NOT;
        e.proved = day;
        return 1;
    }

    /** The entries of a man that count on day k. */
    List<Entry> counting(int man, int k, boolean truth) {
        List<Entry> list = new ArrayList<>();
        for (Entry e : entries) {
            boolean counts = truth ? e.day <= k : e.paper == 0 ? e.told <= k : e.proved >= 0 && e.proved <= k;
            if (e.man == man && counts) list.add(e);
        }
        return list;
    }

    int fact(int man, int sort, int k, int d, boolean truth) {
        int n = 0;
        Integer first = null;
        for (Entry e : counting(man, k, truth)) if (e.sort == sort) {
            n++;
            if (first == null || e.day < first) first = e.day;
        }
        if (sort > 0) return n;
        return first == null || first > d ? 0 : (d - first) / 30;
    }

    int known(int man, int what, int k) {
        if (!isMan(man) || !in(k, 0, 700) || !in(what, 0, 4) && !in(what, 10, 14)) return BAD;
        return fact(man, what % 10, k, k, what >= 10);
    }

    int doubles(int what) {
        if (!in(what, 0, 2)) return BAD;
        int n = 0, a = -1, b = -1;
        for (int i = 0; i < entries.size(); i++) for (int j = i + 1; j < entries.size(); j++) {
            Entry e = entries.get(i), f = entries.get(j);
            if (e.paper != 0 && e.paper == f.paper && e.man != f.man) {
                if (n == 0) { a = e.man; b = f.man; }
                n++;
            }
        }
        if (what == 0) return n;
        return n == 0 ? NOT : what == 1 ? Math.min(a, b) : Math.max(a, b);
    }

    int middle(int man) {
        List<Integer> months = new ArrayList<>();
        int unit = bodies.get(man).unit;
        for (int m = 0; m < bodies.size(); m++) {
            if (!isMan(m) || m != man && (unit == -1 || bodies.get(m).unit != unit)) continue;
            boolean came = false;
            for (Entry e : counting(m, day, false)) came |= e.sort == 0;
            if (came) months.add(fact(m, 0, day, day, false));
        }
        if (months.isEmpty()) return 0;
        Collections.sort(months);
        return Math.min(66, months.get((months.size() - 1) / 2));
    }

    int files(int man, int shelf, int i, int n) {
        if (!isMan(man) || !in(shelf, 0, 7) || !in(n, 1, 20)) return BAD;
        Object held = shelves[shelf];
        if (held != null && (!(held instanceof Row r) || r.sort > 1)) return -12;
        long[] row = held == null ? new long[0] : ((Row) held).v;
        Body b = bodies.get(man);
        for (int t = 0; t < n; t++) {
            long at = i + 3L * t;
            if (at < 0 || at + 2 >= row.length) { b.notScored = true; return t; }
            long sort = row[(int) at], month = row[(int) at + 1], many = row[(int) at + 2];
            if (sort == blank) sort = 0;
            if (month == blank) month = middle(man);
            if (many == blank) many = 1;
            if (sort < 0 || sort > 4 || month < 0 || month > 66 || many < 0 || many > 9) { b.notScored = true; return t; }
            if (entries.size() + many > 600) return t;
            for (int c = 0; c < many; c++) entry(man, (int) sort, (int) (-30 * month), 0);
        }
        b.notScored = false;
        return n;
    }

    int blank(int v) { int was = blank; blank = v; return was; }

    // ---- rules

    int feed(int a, int b, int c, int d, int e) {
        if (tape.length() + 20 > 240) return FULL;
        StringBuilder s = new StringBuilder(tape);
        for (int v : new int[] {a, b, c, d, e}) for (int k = 3; k >= 0; k--) s.append((char) ((v >>> (8 * k)) % 256));
        tape = s.toString();
        return tape.length();
    }

    int end(int n) {
        if (!in(n, 0, tape.length())) return BAD;
        tape = tape.substring(0, n);
        return n;
    }

    int rule(int from) {
        if (!in(from, day, 700)) return BAD;
        if (rules.size() == 20) return FULL;
        List<String> tokens = new ArrayList<>();
        List<Integer> starts = new ArrayList<>();
        int length = tape.length();
        split(tape, tokens, starts);
        int bad = firstBad(tokens);
        tape = "";
        if (bad >= 0) return -100 - (bad < tokens.size() ? starts.get(bad) : length);
        Rule r = new Rule();
        r.made = day; r.from = from; r.text = tokens;
        rules.add(r);
        return rules.size() - 1;
    }

    static void split(String s, List<String> tokens, List<Integer> starts) {
        java.util.regex.Matcher m = java.util.regex.Pattern.compile("[a-z]+|[0-9]+|[^ ]", java.util.regex.Pattern.DOTALL).matcher(s);
        while (m.find()) { tokens.add(m.group()); starts.add(m.start()); }
    }

    static final List<String> NAMES = Arrays.asList("months", "wounds", "medals", "children", "battles", "craft", "age", "land", "bride", "day");

    static boolean isNumber(String t) { return t.matches("[0-9]{1,4}"); }

    /** By states and a row of what is open: the place of the first token that can't be, tokens.size() if it ends too early, -1 if all is well. */
    static int firstBad(List<String> tokens) {
        StringBuilder open = new StringBuilder();
        String state = "line";
        String sum = "";
        for (int i = 0; i <= tokens.size(); i++) {
            String t = i < tokens.size() ? tokens.get(i) : "END";
            boolean operand = isNumber(t) || NAMES.contains(t);
            boolean stops = t.equals(";") || t.equals("END");
            char top = open.length() == 0 ? ' ' : open.charAt(open.length() - 1);
            if (state.equals("test") && (operand || t.equals("("))) { state = "operand"; sum = "left"; }
            switch (state) {
                case "line":
                    if (t.equals("score") || t.equals("low")) { state = "operand"; sum = t; }
                    else if (t.equals("stay")) state = "test";
                    else if (t.equals("port")) state = "number";
                    else return i;
                    continue;
                case "number":
                    if (!isNumber(t)) return i;
                    state = "port";
                    continue;
                case "port":
                    if (t.equals("if")) state = "test";
                    else if (t.equals(";")) state = "line";
                    else if (t.equals("END")) return -1;
                    else return i;
                    continue;
                case "operand":
                    if (operand) state = "had";
                    else if (t.equals("(") && open.length() < 8) open.append('(');
                    else return i;
                    continue;
                case "test":
                    if (t.equals("not") && open.length() < 8) open.append('n');
                    else if (t.equals("[") && open.length() < 8) open.append('[');
                    else return i;
                    continue;
                case "had":
                    if (t.matches("[-+*/]")) { state = "operand"; continue; }
                    if (t.equals(")") && top == '(') { open.setLength(open.length() - 1); continue; }
                    if (top == '(') return i;
                    if (sum.equals("left")) {
                        if (!t.matches("[<=>]")) return i;
                        sum = "right";
                        state = "operand";
                        continue;
                    }
                    if (sum.equals("score") && t.equals("if")) { state = "test"; continue; }
                    if (!sum.equals("right")) {
                        if (t.equals("END")) return -1;
                        if (!t.equals(";")) return i;
                        state = "line";
                        continue;
                    }
                    state = "tested";
                    shutNots(open);
                    break;
                default:
                    break;
            }
            // Behind a whole test.
            top = open.length() == 0 ? ' ' : open.charAt(open.length() - 1);
            if (t.equals("and") || t.equals("or")) state = "test";
            else if (t.equals("]") && top == '[') { open.setLength(open.length() - 1); shutNots(open); state = "tested"; }
            else if (stops && open.length() == 0) { if (t.equals("END")) return -1; state = "line"; }
            else return i;
        }
        return tokens.size();
    }

    static void shutNots(StringBuilder open) {
        while (open.length() > 0 && open.charAt(open.length() - 1) == 'n') open.setLength(open.length() - 1);
    }

    /** The last place, outside all brackets, of one of these tokens; -1. */
    static int lastOf(List<String> t, String... wanted) {
        int depth = 0, found = -1;
        for (int i = 0; i < t.size(); i++) {
            String s = t.get(i);
            if (s.equals("(") || s.equals("[")) depth++;
            if (s.equals(")") || s.equals("]")) depth--;
            if (depth == 0 && Arrays.asList(wanted).contains(s)) found = i;
        }
        return found;
    }

    static int value(List<String> t, Map<String, Integer> names) {
        int i = lastOf(t, "+", "-");
        if (i < 0) i = lastOf(t, "*", "/");
        if (i >= 0) {
            int a = value(t.subList(0, i), names), b = value(t.subList(i + 1, t.size()), names);
            switch (t.get(i)) {
                case "+": return a + b;
                case "-": return a - b;
                case "*": return a * b;
                default: return b == 0 ? 0 : (int) ((long) a / b);
            }
        }
        if (t.get(0).equals("(")) return value(t.subList(1, t.size() - 1), names);
        return isNumber(t.get(0)) ? Integer.parseInt(t.get(0)) : names.get(t.get(0));
    }

    static boolean holds(List<String> t, Map<String, Integer> names) {
        int i = lastOf(t, "or");
        if (i >= 0) return holds(t.subList(0, i), names) | holds(t.subList(i + 1, t.size()), names);
        i = lastOf(t, "and");
        if (i >= 0) return holds(t.subList(0, i), names) & holds(t.subList(i + 1, t.size()), names);
        if (t.get(0).equals("not")) return !holds(t.subList(1, t.size()), names);
        if (t.get(0).equals("[")) return holds(t.subList(1, t.size() - 1), names);
        i = lastOf(t, "<", "=", ">");
        int a = value(t.subList(0, i), names), b = value(t.subList(i + 1, t.size()), names);
        return t.get(i).equals("<") ? a < b : t.get(i).equals("=") ? a == b : a > b;
    }

    Verdict judge(int man, int rule, int d, int k) {
        Verdict v = new Verdict();
        v.rule = rule;
        if (rule >= 0) {
            Body b = bodies.get(man);
            Map<String, Integer> names = new HashMap<>();
            for (int s = 0; s < 5; s++) names.put(NAMES.get(s), fact(man, s, k, d, false));
            names.put("craft", b.craft);
            names.put("age", b.age);
            names.put("land", places.get(b.left).land);
            names.put("bride", b.bride >= 0 ? 1 : 0);
            names.put("day", d);
            boolean port = false;
            List<String> rest = new ArrayList<>(rules.get(rule).text);
            rest.add(";");
            while (!rest.isEmpty()) {
                int semi = rest.indexOf(";");
                List<String> line = rest.subList(0, semi);
                int iff = line.indexOf("if");
                boolean counts = iff < 0 || holds(line.subList(iff + 1, line.size()), names);
                List<String> arg = line.subList(1, iff < 0 ? line.size() : iff);
                switch (line.get(0)) {
                    case "score": if (counts) v.score += value(arg, names); break;
                    case "low": v.low = value(arg, names); break;
                    case "stay": v.stays |= holds(arg, names); break;
                    default:
                        if (counts && !port) {
                            port = true;
                            int n = Integer.parseInt(arg.get(0));
                            v.port = isPort(n) ? n : -1;
                        }
                }
                rest = rest.subList(semi + 1, rest.size());
            }
        }
        v.out = v.score >= v.low && !v.stays && !bodies.get(man).notScored;
        return v;
    }

    int ruling(int place, int d, int k) {
        int found = -1;
        for (int r = 0; r < rules.size(); r++) {
            int far = far(0, place);
            if (far >= 0 && rules.get(r).made + far <= k && rules.get(r).from <= d) found = r;
        }
        return found;
    }

    int inForce(int place, int d, int k) {
        if (!isPlace(place) || !in(d, 0, 700) || !in(k, 0, 700)) return BAD;
        int r = ruling(place, d, k);
        return r < 0 ? NOT : r;
    }

    Verdict office(int man) { return judge(man, ruling(0, day, day), day, day); }

    int judged(int man, int d, int k, int what) {
        if (!isMan(man) || !in(d, 0, 700) || !in(k, 0, 700) || !in(what, 0, 5) && !in(what, 10, 15)) return VOID;
        Body b = bodies.get(man);
        Verdict v;
        if (what >= 10) {
            v = judge(man, ruling(0, d, k), d, k);
        } else {
            int by = b.what == 0 || b.what == 3 ? k : Math.min(k, b.leftOn);
            v = judge(man, ruling(b.left, d, by), d, by);
        }
        return new int[] {v.score, v.low, v.stays ? 1 : 0, v.port, v.out ? 1 : 0, v.rule}[what % 10];
    }

    int tried(int rule, int what) {
        if (!in(rule, 0, rules.size() - 1) || !in(what, 0, 2)) return BAD;
        int[] n = new int[3];
        for (int m = 0; m < bodies.size(); m++) {
            if (!isMan(m) || bodies.get(m).what >= 4) continue;
            boolean it = judge(m, rule, day, day).out, office = office(m).out;
            if (it) n[0]++;
            if (it && !office) n[1]++;
            if (!it && office) n[2]++;
        }
        return n[what];
    }

    // ---- trains, ships

    int present(int place, int craft) {
        int n = 0;
        for (Body b : bodies) if (b.what == 0 && b.where == place && b.craft == craft) n++;
        return n;
    }

    int asked(int place, int craft) {
        int n = 0;
        for (Body b : bodies) if (b.place == place) n += b.needs[craft];
        return n;
    }

    boolean needed(int man) {
        Body b = bodies.get(man);
        return b.what == 0 && present(b.where, b.craft) - 1 < asked(b.where, b.craft);
    }

    int train(int man, int to) {
        if (!isMan(man) || !isPlace(to)) return BAD;
        Body b = bodies.get(man);
        if (b.what != 0) return NOT;
        Rail r = rails.get(pair(b.where, to));
        if (r == null || needed(man) || r.used >= r.seats || menAt(to) >= places.get(to).beds) return NOT;
        r.used++;
        b.what = 1;
        b.left = b.where;
        b.leftOn = day;
        b.where = to;
        b.till = day + r.days;
        return b.till;
    }

    int ship(int port, int berths, int passage) {
        if (!isPort(port) || !in(berths, 1, 60) || !in(passage, 2, 30)) return BAD;
        if (ships.size() == 16) return FULL;
        Ship s = new Ship();
        s.port = port; s.berths = berths; s.passage = passage;
        ships.add(s);
        return ships.size() - 1;
    }

    boolean repairing(int ship) { return ships.get(ship).repair > day; }

    int repair(int ship, int d) {
        if (!isShip(ship) || !in(d, day, 700)) return BAD;
        if (ships.get(ship).what != 0) return NOT;
        ships.get(ship).repair = d;
        return 1;
    }

    int why(int man, int ship) {
        if (!isMan(man) || !isShip(ship)) return BAD;
        Body b = bodies.get(man);
        Ship s = ships.get(ship);
        if (b.what != 0 || b.where != s.port) return 1;
        if (b.notScored) return 2;
        Verdict v = judge(man, ruling(s.port, day, day), day, day);
        if (v.score < v.low) return 3;
        if (v.stays) return 4;
        if (v.port >= 0 && v.port != s.port) return 5;
        if (needed(man)) return 6;
        if (s.what != 0 || repairing(ship)) return 7;
        return aboard(ship).size() >= s.berths ? 8 : 0;
    }

    int next(int ship) {
        if (!isShip(ship)) return BAD;
        int best = NOT, score = 0;
        for (int m = 0; m < bodies.size(); m++) {
            if (!isMan(m) || why(m, ship) != 0) continue;
            int s = judge(m, ruling(ships.get(ship).port, day, day), day, day).score;
            if (best < 0 || s > score) { best = m; score = s; }
        }
        return best;
    }

    int load(int man, int ship) {
        int why = why(man, ship);
        if (why < 0) return BAD;
        if (why > 0) return -20 - why;
        Body b = bodies.get(man);
        b.what = 2;
        b.leftOn = day;
        b.where = ship;
        return aboard(ship).size();
    }

    int fill(int ship) {
        if (!isShip(ship)) return BAD;
        int n = 0;
        for (int m = next(ship); m >= 0; m = next(ship)) { load(m, ship); n++; }
        return n;
    }

    int sail(int ship, int back) {
        if (!isShip(ship) || !isPort(back)) return BAD;
        Ship s = ships.get(ship);
        if (s.what != 0 || repairing(ship) || aboard(ship).isEmpty()) return NOT;
        s.what = 1;
        s.port = back;
        s.day = day + s.passage;
        return s.day;
    }

    int ofShip(int ship, int what) {
        if (!isShip(ship) || !in(what, 0, 6)) return VOID;
        Ship s = ships.get(ship);
        return new int[] {s.what, s.port, s.day, aboard(ship).size(), sickAboard(ship), repairing(ship) ? s.repair : -1, s.home}[what];
    }

    // ---- plans

    final List<int[]> posts = new ArrayList<>();
    final List<Integer> ready = new ArrayList<>();
    int[] relieved = new int[0];

    int post(int place, int what) {
        if (!isPlace(place) || what < 0 || what / 100 > 9 || !in(what / 10 % 10, 1, 3)) return BAD;
        if (posts.size() == 5) return FULL;
        posts.add(new int[] {place, what / 100, what / 10 % 10, what % 10});
        return posts.size();
    }

    int ready(int man) {
        if (!isMan(man) || ready.contains(man)) return BAD;
        if (bodies.get(man).what != 0) return NOT;
        if (ready.size() == 8) return FULL;
        ready.add(man);
        return ready.size();
    }

    private long least;
    private List<Integer> leastRow;

    int relief() {
        leastRow = null;
        if (!posts.isEmpty()) relieve(0, 0, 0L, new ArrayList<>());
        List<Integer> row = leastRow;
        int n = ready.size(), p = 0;
        List<int[]> told = new ArrayList<>(posts);
        posts.clear();
        ready.clear();
        if (row == null) return VOID;
        relieved = new int[n];
        Arrays.fill(relieved, NOT);
        for (int[] post : told) {
            for (int c = 0; c < post[2]; c++) { relieved[row.get(0)] = p; row = row.subList(1, row.size()); }
            p++;
        }
        return (int) Math.max(-1999999999L, Math.min(1999999999L, least));
    }

    /** All sets of men for a place, from the highest bits down, so that the order of the search doesn't help. */
    private void relieve(int post, int used, long sum, List<Integer> row) {
        if (post == posts.size()) {
            if (leastRow == null || sum < least || sum == least && before(row, leastRow)) { least = sum; leastRow = new ArrayList<>(row); }
            return;
        }
        int[] p = posts.get(post);
        for (int set = (1 << ready.size()) - 1; set >= 0; set--) {
            if (Integer.bitCount(set) != p[2] || (set & used) != 0) continue;
            List<Integer> longer = new ArrayList<>(row);
            long more = 0;
            boolean fits = true;
            for (int i = 0; i < ready.size(); i++) if ((set >> i & 1) == 1) {
                Body b = bodies.get(ready.get(i));
                fits &= b.what == 0 && b.craft == p[1] && far(b.where, p[0]) >= 0 && far(b.where, p[0]) <= p[3];
                longer.add(i);
                if (fits) more += office(ready.get(i)).score;
            }
            if (fits) relieve(post + 1, used | set, sum + more, longer);
        }
    }

    static boolean before(List<Integer> a, List<Integer> b) {
        for (int i = 0; i < Math.min(a.size(), b.size()); i++) if (!a.get(i).equals(b.get(i))) return a.get(i) < b.get(i);
        return a.size() < b.size();
    }

    int relieved(int i) { return in(i, 0, relieved.length - 1) ? relieved[i] : BAD; }

    final List<Integer> turnShips = new ArrayList<>();
    final List<int[]> turnPorts = new ArrayList<>();
    List<Integer> bestVoyages = new ArrayList<>();
    int bestHome;

    int turn(int sort, int v) {
        if (sort == 0) {
            if (!isShip(v) || turnShips.contains(v)) return BAD;
            if (turnShips.size() == 3) return FULL;
            turnShips.add(v);
            return turnShips.size();
        }
        if (sort != 1 || v < 0 || !isPort(v / 1000)) return BAD;
        for (int[] p : turnPorts) if (p[0] == v / 1000) return BAD;
        if (turnPorts.size() == 3) return FULL;
        turnPorts.add(new int[] {v / 1000, v % 1000});
        return turnPorts.size();
    }

    int voyages(int days) {
        if (!in(days, 1, 200)) return BAD;
        if (turnShips.isEmpty() || turnPorts.isEmpty()) return NOT;
        bestHome = -1;
        int[] waiting = new int[turnPorts.size()];
        for (int i = 0; i < waiting.length; i++) waiting[i] = turnPorts.get(i)[1];
        int n = turnShips.size();
        goOn(days, waiting, new int[n], new int[n], new boolean[n], 0, new ArrayList<>());
        turnShips.clear();
        turnPorts.clear();
        return bestHome;
    }

    /** Every row of choices, with all rests, by the order of choices. */
    private void goOn(int days, int[] waiting, int[] free, int[] made, boolean[] rests, int home, List<Integer> row) {
        int s = -1;
        boolean some = Arrays.stream(waiting).sum() > 0;
        for (int i = 0; i < free.length; i++) {
            boolean can = some && !rests[i] && made[i] < 3 && free[i] + ships.get(turnShips.get(i)).passage <= days;
            if (can && (s < 0 || free[i] < free[s])) s = i;
        }
        if (s < 0) {
            if (home > bestHome) { bestHome = home; bestVoyages = new ArrayList<>(row); }
            return;
        }
        Ship h = ships.get(turnShips.get(s));
        for (int p = 0; p < waiting.length; p++) if (waiting[p] > 0) {
            int go = Math.min(waiting[p], h.berths);
            waiting[p] -= go; free[s] += 2 * h.passage; made[s]++; row.add(p);
            goOn(days, waiting, free, made, rests, home + go, row);
            waiting[p] += go; free[s] -= 2 * h.passage; made[s]--; row.remove(row.size() - 1);
        }
        rests[s] = true;
        row.add(9);
        goOn(days, waiting, free, made, rests, home, row);
        rests[s] = false;
        row.remove(row.size() - 1);
    }

    int voyage(int i) { return in(i, 0, bestVoyages.size() - 1) ? bestVoyages.get(i) : BAD; }

    final List<int[]> camps = new ArrayList<>();
    List<Integer> shutOrder = new ArrayList<>();
    private long bestBread;
    private List<Integer> bestOrder;

    int shut(int place, int what, int ahead) {
        if (!isPlace(place) || isPort(place) || what < 0 || !in(what / 1000, 1, 20) || what % 1000 < 1) return BAD;
        if (ahead < 0 || ahead > 255 || (ahead >> camps.size() & 1) == 1) return BAD;
        for (int[] c : camps) if (c[0] == place) return BAD;
        if (camps.size() == 8) return FULL;
        camps.add(new int[] {place, what / 1000, what % 1000, ahead});
        return camps.size();
    }

    int bread() {
        if (camps.isEmpty()) return BAD;
        bestOrder = null;
        shutNext(0, 0, 0L, new ArrayList<>());
        if (bestOrder != null) {
            shutOrder = new ArrayList<>();
            for (int i : bestOrder) shutOrder.add(camps.get(i)[0]);
        }
        camps.clear();
        return bestOrder == null ? NOT : (int) bestBread;
    }

    private void shutNext(int done, int time, long bread, List<Integer> row) {
        if (row.size() == camps.size()) {
            if (bestOrder == null || bread < bestBread) { bestBread = bread; bestOrder = new ArrayList<>(row); }
            return;
        }
        for (int i = 0; i < camps.size(); i++) {
            int[] c = camps.get(i);
            boolean may = (done >> i & 1) == 0;
            for (int j = 0; j < camps.size(); j++) if ((c[3] >> j & 1) == 1 && (done >> j & 1) == 0) may = false;
            if (!may) continue;
            row.add(i);
            shutNext(done | 1 << i, time + c[1], bread + (long) c[2] * (time + c[1]), row);
            row.remove(row.size() - 1);
        }
    }

    int order(int i) { return in(i, 0, shutOrder.size() - 1) ? shutOrder.get(i) : BAD; }

    final int[] have = new int[100];
    final int[][] berths = new int[4][8];

    int have(int score, int n) {
        if (!in(score, 0, 99) || !in(n, 0, 199)) return BAD;
        int had = have[score];
        have[score] = n;
        return had;
    }

    int berths(int row, int week, int n) {
        if (!in(row, 0, 3) || !in(week, 0, 7) || !in(n, 0, 9999)) return BAD;
        int were = berths[row][week];
        berths[row][week] = n;
        return were;
    }

    int line(int w, int r, int within) {
        if (!in(w, 0, 7) || !in(r, 1, 4) || !in(within, 1, 4)) return BAD;
        int[] waiting = new int[4];
        int low = 100;
        for (int week = 0; week <= w; week++) {
            int ahead = low;
            low = ahead;
            for (int l = 0; l <= ahead; l++) {
                boolean good = true;
                for (int row = 0; row < r; row++) {
                    int room = 0;
                    for (int k = 0; k < within; k++) room += berths[row][Math.min(7, week + k)];
                    good &= waiting[row] + coming(l, ahead) <= room;
                }
                if (good) { low = l; break; }
            }
            for (int row = 0; row < r; row++) waiting[row] = Math.max(0, waiting[row] + coming(low, ahead) - berths[row][week]);
        }
        return low;
    }

    private int coming(int low, int ahead) {
        int n = 0;
        for (int s = low; s < ahead; s++) n += have[s];
        return n;
    }

    // ---- acts, shelves

    final List<Integer> ran = new ArrayList<>();

    int act(int body, int act, int x) {
        ran.clear();
        if (!isBody(body) || !in(act, 0, 3)) return 0;
        Holder h = holder(body);
        switch (act) {
            case 0: return h.counts(x);
            case 1: return h.moves(x);
            case 2: return h.keeps(x);
            default: return h.tells(x);
        }
    }

    private Holder holder(int n) {
        switch (bodies.get(n).kind) {
            case 0: return new Holder(n);
            case 1: return new ManAct(n);
            case 2: return new ClerkAct(n);
            case 3: return new BrideAct(n);
            case 4: return new UnitAct(n);
            case 5: return new GuardAct(n);
            case 6: return new DraftAct(n);
            default: return new MarshalAct(n);
        }
    }

    private class Holder {
        final int n;
        Holder(int n) { this.n = n; }
        int counts(int x) { ran.add(1); return x + n; }
        int moves(int x) { ran.add(10); return counts(x) * 2; }
        int keeps(int x) { ran.add(11); return x - n; }
        int tells(int x) { ran.add(2); return keeps(x) ^ moves(x); }
    }
    private class ManAct extends Holder {
        ManAct(int n) { super(n); }
        int counts(int x) { ran.add(20); return super.counts(x) + bodies.get(n).age; }
        int tells(int x) { ran.add(21); return super.tells(x) + 1; }
    }
    private class ClerkAct extends ManAct {
        ClerkAct(int n) { super(n); }
        int moves(int x) { ran.add(30); return super.moves(x) - bodies.get(n).craft; }
    }
    private class BrideAct extends Holder {
        BrideAct(int n) { super(n); }
        int keeps(int x) { ran.add(40); return -super.keeps(x); }
    }
    private class UnitAct extends Holder {
        UnitAct(int n) { super(n); }
        int counts(int x) {
            ran.add(50);
            int members = 0;
            for (int m = 0; m < bodies.size(); m++) if (isMan(m) && bodies.get(m).unit == n) members++;
            return members + x;
        }
        int moves(int x) { ran.add(51); return super.moves(x + 1); }
    }
    private class GuardAct extends UnitAct {
        GuardAct(int n) { super(n); }
        int keeps(int x) { ran.add(60); return super.keeps(x) * 3 + counts(x); }
    }
    private class DraftAct extends UnitAct {
        DraftAct(int n) { super(n); }
        int tells(int x) { ran.add(70); return super.tells(x) + moves(1); }
    }
    private class MarshalAct extends GuardAct {
        MarshalAct(int n) { super(n); }
        int counts(int x) { ran.add(80); return super.counts(x) ^ 5; }
        int moves(int x) { ran.add(81); return super.moves(x) - super.keeps(x); }
    }

    int trace(int i) { return in(i, 0, Math.min(24, ran.size()) - 1) ? ran.get(i) : BAD; }

    static final class Row { int sort; long[] v; }

    /** null, an Integer (a body), or a Row. */
    final Object[] shelves = new Object[8];

    int keep(int shelf, int body) {
        if (!in(shelf, 0, 7) || body != -1 && !isBody(body)) return BAD;
        shelves[shelf] = body == -1 ? null : (Object) body;
        return 1;
    }

    int row(int shelf, int sort, int n) {
        if (!in(shelf, 0, 7) || !in(sort, 0, 4) || n > 90) return BAD;
        if (n < 0) return -14;
        Row r = new Row();
        r.sort = sort;
        r.v = new long[n];
        shelves[shelf] = r;
        return 1;
    }

    private int refused(int shelf, int i) {
        if (!in(shelf, 0, 7)) return BAD;
        if (shelves[shelf] == null) return -11;
        if (!(shelves[shelf] instanceof Row)) return -12;
        return in(i, 0, ((Row) shelves[shelf]).v.length - 1) ? 0 : -13;
    }

    int put(int shelf, int i, long v) {
        int r = refused(shelf, i);
        if (r != 0) return r;
        Row row = (Row) shelves[shelf];
        switch (row.sort) {
            case 0: row.v[i] = (byte) v; break;
            case 1: row.v[i] = (short) v; break;
            case 2: row.v[i] = (int) v; break;
            case 3: row.v[i] = v; break;
            default: row.v[i] = v == 0 ? 0 : 1;
        }
        return 1;
    }

    long element(int shelf, int i) { return refused(shelf, i) != 0 ? Long.MIN_VALUE : ((Row) shelves[shelf]).v[i]; }

    int shift(int shelf, int i, int other, int j, int n) {
        if (!in(shelf, 0, 7) || !in(other, 0, 7)) return BAD;
        if (shelves[shelf] == null || shelves[other] == null) return -11;
        if (!(shelves[shelf] instanceof Row a) || !(shelves[other] instanceof Row b) || a.sort != b.sort) return -12;
        if (n < 0 || i < 0 || j < 0 || (long) i + n > a.v.length || (long) j + n > b.v.length) return -13;
        long[] were = Arrays.copyOfRange(a.v, i, i + n);
        for (int k = 0; k < n; k++) b.v[j + k] = were[k];
        return n;
    }

    int taken(int shelf, int k) {
        if (!in(shelf, 0, 7) || !in(k, 0, 7)) return BAD;
        if (shelves[shelf] == null) return -11;
        if (!(shelves[shelf] instanceof Integer n)) return -12;
        Class<?>[] kinds = {Holder.class, ManAct.class, ClerkAct.class, BrideAct.class, UnitAct.class, GuardAct.class, DraftAct.class, MarshalAct.class};
        return kinds[k].isInstance(holder(n)) ? bodies.get(n).kind : -12;
    }

    int check() {
        for (int p = 0; p < places.size(); p++) if (menAt(p) > places.get(p).beds) return 1;
        for (int s = 0; s < ships.size(); s++) if (aboard(s).size() > ships.get(s).berths) return 2;
        for (int p = 0; p < places.size(); p++) for (int c = 0; c < 10; c++) if (present(p, c) < asked(p, c)) return 3;
        return 0;
    }

    int count(int what) {
        if (!in(what, 0, 15)) return BAD;
        int men = 0;
        int[] by = new int[7];
        for (int b = 0; b < bodies.size(); b++) if (isMan(b)) { men++; by[bodies.get(b).what]++; }
        if (in(what, 8, 14)) return by[what - 8];
        int[] n = {places.size(), bodies.size(), men, entries.size(), rules.size(), day, ships.size(), tape.length()};
        return what == 15 ? ran.size() : n[what];
    }
}
