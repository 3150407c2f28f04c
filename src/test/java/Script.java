import java.io.IOException;
import java.lang.reflect.InvocationTargetException;
import java.lang.reflect.Method;
import java.nio.file.Files;
import java.nio.file.Path;
import java.util.ArrayList;
import java.util.HashMap;
import java.util.List;
import java.util.Map;
import java.util.regex.Matcher;
import java.util.regex.Pattern;

/**
 * Cases read from a text file, each a row of calls on a new object:
 *   == a title                       a new case begins
 *   place(0, 9) -> 0                 a call and the answer that is due (or none, if it isn't looked at)
 *   3 times place(0, 9)              a call made so often
 *   each 1 .. 5: days(60) -> 60*i    a call for each i
 *   rule(0) of "low 1" -> 0          a text comes to the empty tape, then rule
 *   type "low 1"                     a text comes to the empty tape
 *   bytes(0): 1 2 3 * 4 then 5       a shelf holds a row of 1 2 3 four times, then 5 (likewise shorts)
 */
final class Script {
    private static final Map<String, Method> METHODS = new HashMap<>();
    private static final Pattern CALL = Pattern.compile("(\\w+)\\((.*)\\)");
    private static final Pattern TEXT = Pattern.compile("\"(.*)\"");

    static {
        for (Method m : PointsHome.class.getDeclaredMethods()) {
            METHODS.put(m.getName(), m);
        }
    }

    /** One call; want is null if its answer isn't looked at. */
    static final class Step {
        final int line;
        final String name;
        final long[] args;
        final Long want;
        final boolean refused;

        Step(int line, String name, long[] args, String want, int i) {
            this.line = line;
            this.name = name;
            this.args = args;
            this.want = want == null ? null : value(want, i);
            this.refused = want != null && isRefusal(name, want);
        }

        long call(PointsHome x) {
            Method m = METHODS.get(name);
            Class<?>[] types = m.getParameterTypes();
            Object[] given = new Object[args.length];
            for (int k = 0; k < args.length; k++) {
                given[k] = types[k] == long.class ? (Object) args[k] : (Object) (int) args[k];
            }
            try {
                return ((Number) m.invoke(x, given)).longValue();
            } catch (InvocationTargetException e) {
                throw new IllegalStateException(this + " in line " + line + " threw " + e.getCause(), e.getCause());
            } catch (IllegalAccessException e) {
                throw new IllegalStateException(e);
            }
        }

        @Override
        public String toString() {
            StringBuilder s = new StringBuilder(name).append("(");
            for (int k = 0; k < args.length; k++) {
                s.append(k > 0 ? ", " : "").append(args[k]);
            }
            return s.append(")").toString();
        }
    }

    static final class Case {
        final String title;
        final List<Step> steps = new ArrayList<>();

        Case(String title) {
            this.title = title;
        }
    }

    private final List<Case> cases = new ArrayList<>();
    private int line;
    private int i;

    static List<Case> read(Path file) throws IOException {
        Script script = new Script();
        for (String text : Files.readAllLines(file)) {
            script.line++;
            script.take(text.trim());
        }
        return script.cases;
    }

    private void take(String text) {
        if (text.isEmpty() || text.startsWith("#")) {
            return;
        }
        if (text.startsWith("== ")) {
            cases.add(new Case(text.substring(3)));
            return;
        }
        int arrow = text.lastIndexOf(" -> ");
        String want = arrow < 0 ? null : text.substring(arrow + 4).trim();
        String what = arrow < 0 ? text : text.substring(0, arrow).trim();
        Matcher each = Pattern.compile("each (-?\\d+) \\.\\. (-?\\d+): (.*)").matcher(what);
        Matcher times = Pattern.compile("(\\d+) times (.*)").matcher(what);
        if (each.matches()) {
            for (i = Integer.parseInt(each.group(1)); i <= Integer.parseInt(each.group(2)); i++) {
                one(each.group(3), want);
            }
        } else if (times.matches()) {
            for (int n = Integer.parseInt(times.group(1)); n > 0; n--) {
                one(times.group(2), want);
            }
        } else {
            one(what, want);
        }
        i = 0;
    }

    private void one(String what, String want) {
        if (what.startsWith("type ") || what.contains(" of \"")) {
            Matcher text = TEXT.matcher(what);
            if (!text.find()) {
                throw new IllegalStateException("line " + line + ": " + what);
            }
            type(unescape(text.group(1)));
            if (what.startsWith("type ")) {
                return;
            }
            call(what.substring(0, what.indexOf(" of \"")), want);
        } else if (what.startsWith("bytes(") || what.startsWith("shorts(")) {
            row(what);
        } else {
            call(what, want);
        }
    }

    private void call(String what, String want) {
        Matcher call = CALL.matcher(what);
        if (!call.matches() || !METHODS.containsKey(call.group(1))) {
            throw new IllegalStateException("line " + line + ": " + what);
        }
        String inside = call.group(2).trim();
        String[] parts = inside.isEmpty() ? new String[0] : inside.split(",");
        long[] args = new long[parts.length];
        for (int k = 0; k < parts.length; k++) {
            args[k] = value(parts[k].trim(), i);
        }
        if (args.length != METHODS.get(call.group(1)).getParameterCount()) {
            throw new IllegalStateException("line " + line + ": " + what);
        }
        add(call.group(1), want, args);
    }

    private void add(String name, String want, long... args) {
        cases.get(cases.size() - 1).steps.add(new Step(line, name, args, want, i));
    }

    private void type(String text) {
        add("end", null, 0);
        StringBuilder s = new StringBuilder(text);
        while (s.length() % 20 != 0) {
            s.append(' ');
        }
        for (int at = 0; at < s.length(); at += 20) {
            long[] five = new long[5];
            for (int k = 0; k < 20; k++) {
                five[k / 4] = (int) (five[k / 4] << 8 | s.charAt(at + k));
            }
            add("feed", null, five);
        }
        add("end", null, text.length());
    }

    private static String unescape(String text) {
        StringBuilder out = new StringBuilder();
        for (int k = 0; k < text.length(); k++) {
            char c = text.charAt(k);
            if (c != '\\') {
                out.append(c);
                continue;
            }
            k++;
            if (text.charAt(k) == 'x') {
                out.append((char) Integer.parseInt(text.substring(k + 1, k + 3), 16));
                k += 2;
            } else {
                out.append("\t\n\r".charAt("tnr".indexOf(text.charAt(k))));
            }
        }
        return out.toString();
    }

    private void row(String what) {
        int shelf = Integer.parseInt(what.substring(what.indexOf('(') + 1, what.indexOf(')')));
        List<Long> elements = new ArrayList<>();
        for (String part : what.substring(what.indexOf(':') + 1).split("then")) {
            String[] sides = part.split("\\*");
            int times = sides.length > 1 ? Integer.parseInt(sides[1].trim()) : 1;
            for (int n = 0; n < times; n++) {
                for (String v : sides[0].trim().split(" +")) {
                    elements.add(Long.parseLong(v));
                }
            }
        }
        add("row", null, shelf, what.startsWith("bytes") ? 0 : 1, elements.size());
        for (int k = 0; k < elements.size(); k++) {
            add("put", null, shelf, k, elements.get(k));
        }
    }

    /** A number, a name, i, or a sum of products of those. */
    private static long value(String text, int i) {
        switch (text) {
            case "BAD":
                return PointsHome.BAD;
            case "NOT":
                return PointsHome.NOT;
            case "FULL":
                return PointsHome.FULL;
            case "VOID":
                return PointsHome.VOID;
            case "NONE":
            case "LMIN":
                return Long.MIN_VALUE;
            case "LMAX":
                return Long.MAX_VALUE;
            case "MIN":
                return Integer.MIN_VALUE;
            case "MAX":
                return Integer.MAX_VALUE;
            case "i":
                return i;
            default:
                break;
        }
        int sign = Math.max(text.lastIndexOf('+'), text.lastIndexOf('-'));
        if (sign > 0) {
            long right = value(text.substring(sign + 1), i);
            return value(text.substring(0, sign), i) + (text.charAt(sign) == '+' ? right : -right);
        }
        int times = text.indexOf('*');
        if (times > 0) {
            return value(text.substring(0, times), i) * value(text.substring(times + 1), i);
        }
        return Long.parseLong(text);
    }

    /** Refusals are written by their names, or are the host's and WHY's numbers of the calls that have them. */
    private static boolean isRefusal(String name, String want) {
        switch (want) {
            case "BAD":
            case "FULL":
            case "NONE":
                return true;
            case "NOT":
                return !name.equals("bread");
            case "VOID":
                return !name.equals("relief");
            case "-11":
            case "-12":
            case "-13":
            case "-14":
                return "put shift taken row files".contains(name);
            default:
                return name.equals("load") && want.startsWith("-2");
        }
    }
}
