import java.lang.reflect.Array;
import java.lang.reflect.Constructor;
import java.lang.reflect.Field;
import java.lang.reflect.Method;
import java.lang.reflect.Modifier;
import java.nio.file.Files;
import java.nio.file.Path;
import java.util.ArrayList;
import java.util.HashSet;
import java.util.IdentityHashMap;
import java.util.List;
import java.util.Map;
import java.util.Set;
import java.util.regex.Matcher;
import java.util.regex.Pattern;

/** Some of the rules of ../shared/LANGUAGE.md that a program can look at, and the document's face. */
public final class LanguageTest {
    private static int wrong;

    private static void fault(String rule, String text) {
        wrong++;
        System.out.println("rule " + rule + ": " + text);
    }

    public static void main(String[] args) throws Exception {
        Path source = Path.of("src/main/java/PointsHome.java");
        String text = Files.readString(source);
        String code = text.replaceAll("(?s)/\\*.*?\\*/", "").replaceAll("//[^\n]*", "").replaceAll("\"[^\"\n]*\"", "\"\"");
        face();
        names(code);
        words(code);
        library(code);
        sizes(text);
        room();
        System.out.println("LanguageTest: " + wrong + " faults");
        if (wrong > 0) {
            System.exit(1);
        }
    }

    private static void face() {
        String wanted = "place(II) rail(IIII) far(II) days(I) body(I) man(IIII) bride(I) guard(II) need(III) unit(II) ofBody(II) sick(II) lost(II) "
            + "entry(IIII) prove(I) known(III) doubles(I) files(IIII) blank(I) feed(IIIII) end(I) rule(I) inForce(III) judged(IIII) tried(II) train(II) "
            + "ship(III) repair(II) why(II) next(I) load(II) fill(I) sail(II) ofShip(II) post(II) ready(I) relief() relieved(I) turn(II) voyages(I) voyage(I) "
            + "shut(III) bread() order(I) have(II) berths(III) line(III) act(III) trace(I) keep(II) row(III) put(IIJ) element(II) shift(IIIII) taken(II) check() count(I)";
        Set<String> due = new HashSet<>(List.of(wanted.split(" ")));
        for (Method m : PointsHome.class.getDeclaredMethods()) {
            if (Modifier.isPrivate(m.getModifiers())) {
                continue;
            }
            StringBuilder s = new StringBuilder(m.getName()).append("(");
            for (Class<?> p : m.getParameterTypes()) {
                s.append(p == int.class ? "I" : p == long.class ? "J" : "?");
            }
            Class<?> answer = m.getName().equals("element") ? long.class : int.class;
            if (!due.remove(s.append(")").toString()) || !Modifier.isPublic(m.getModifiers()) || m.getReturnType() != answer) {
                fault("1", "not of the face: " + s);
            }
        }
        for (String missing : due) {
            fault("1", "missing: " + missing);
        }
        for (Field f : PointsHome.class.getDeclaredFields()) {
            boolean told = Set.of("BAD", "NOT", "FULL", "VOID").contains(f.getName()) && f.getType() == int.class && Modifier.isPublic(f.getModifiers());
            if (!told && !Modifier.isPrivate(f.getModifiers())) {
                fault("1", "field " + f.getName());
            }
        }
        Constructor<?>[] made = PointsHome.class.getDeclaredConstructors();
        if (made.length != 1 || !Modifier.isPublic(made[0].getModifiers()) || made[0].getParameterCount() != 0 || !Modifier.isFinal(PointsHome.class.getModifiers())) {
            fault("1", "constructor or class");
        }
        List<Class<?>> all = new ArrayList<>(List.of(PointsHome.class.getDeclaredClasses()));
        if (all.size() + 1 > 12) {
            fault("11", all.size() + 1 + " classes");
        }
        all.add(PointsHome.class);
        for (Class<?> c : all) {
            looks(c);
        }
    }

    private static void looks(Class<?> c) {
        if (c != PointsHome.class && !Modifier.isStatic(c.getModifiers())) {
            fault("2", c.getName() + " isn't static");
        }
        int fields = 0;
        for (Field f : c.getDeclaredFields()) {
            boolean fixed = Modifier.isStatic(f.getModifiers());
            fields += fixed ? 0 : 1;
            if (fixed && !Modifier.isFinal(f.getModifiers())) {
                fault("5", c.getName() + "." + f.getName() + " isn't final");
            }
            if (fixed && !Set.of(int.class, long.class, boolean.class, char.class, String.class, int[].class, long[].class, char[].class, byte[].class).contains(f.getType())) {
                fault("5", c.getName() + "." + f.getName() + " is of " + f.getType());
            }
        }
        if (fields > 20) {
            fault("11", c.getName() + " has " + fields + " fields");
        }
        for (Method m : c.getDeclaredMethods()) {
            if (m.getParameterCount() > 7) {
                fault("11", m + " takes too many");
            }
        }
    }

    private static void names(String code) {
        Set<String> face = new HashSet<>();
        for (Method m : PointsHome.class.getDeclaredMethods()) {
            if (Modifier.isPublic(m.getModifiers())) {
                face.add(m.getName());
            }
        }
        for (Class<?> c : PointsHome.class.getDeclaredClasses()) {
            for (Method m : c.getDeclaredMethods()) {
                if (face.contains(m.getName())) {
                    fault("1", c.getSimpleName() + "." + m.getName() + " bears a public name");
                }
            }
        }
    }

    private static void words(String code) {
        Matcher m = Pattern.compile("\\b(throw|throws|try|catch|finally|synchronized|assert|package|native|volatile|transient|var|yield|hashCode|toString|Object|double|float)\\b|->|::").matcher(code);
        while (m.find()) {
            fault("6", "the word " + m.group());
        }
        if (Pattern.compile("\"\"\\s*\\+|\\+\\s*\"\"").matcher(code).find()) {
            fault("10", "texts joined by +");
        }
        if (Pattern.compile("[^\\x00-\\x7f]").matcher(code).find()) {
            fault("4", "a sign beyond 127");
        }
    }

    private static void library(String code) {
        Set<String> may = Set.of("Arrays.fill", "Arrays.copyOf", "Math.min", "Math.max", "System.arraycopy", "Long.MIN_VALUE", "WORDS.length", "WORDS.charAt");
        Matcher m = Pattern.compile("\\b(Arrays|Math|System|Integer|Long|String|StringBuilder|List|ArrayList|WORDS|Character|Thread|Runtime)\\.(\\w+)").matcher(code);
        while (m.find()) {
            if (!may.contains(m.group())) {
                fault("4", m.group());
            }
        }
        m = Pattern.compile("import ([\\w.]+);").matcher(code);
        while (m.find()) {
            if (!m.group(1).equals("java.util.Arrays")) {
                fault("4", m.group());
            }
        }
        // Nothing but the constructors makes objects, but for the steps of a new rule.
        m = Pattern.compile("\\n( ++)(?!private|final|public)[^\\n;]*\\bnew \\w+").matcher(code);
        while (m.find()) {
            if (!m.group().contains("= new ") || m.group(1).length() != 8) {
                fault("12", m.group().trim());
            }
        }
    }

    /** All calls live in one room of 600,000 objects and 7.3 million fields and elements: a new object takes few of them. */
    private static void room() throws IllegalAccessException {
        Map<Object, Boolean> seen = new IdentityHashMap<>();
        int elements = elementsOf(new PointsHome(), seen);
        if (seen.size() > 200 || elements > 14000) {
            fault("12", "a new object takes " + seen.size() + " objects, " + elements + " fields and elements");
        }
    }

    private static int elementsOf(Object made, Map<Object, Boolean> seen) throws IllegalAccessException {
        if (made == null || seen.put(made, true) != null) {
            return 0;
        }
        Class<?> c = made.getClass();
        int n = 0;
        if (c.isArray()) {
            n = Array.getLength(made);
            for (int i = 0; !c.getComponentType().isPrimitive() && i < Array.getLength(made); i++) {
                n += elementsOf(Array.get(made, i), seen);
            }
            return n;
        }
        for (Field f : c.getDeclaredFields()) {
            if (!Modifier.isStatic(f.getModifiers())) {
                f.setAccessible(true);
                n += 1 + (f.getType().isPrimitive() ? 0 : elementsOf(f.get(made), seen));
            }
        }
        return n;
    }

    private static void sizes(String text) {
        String[] lines = text.split("\n");
        int start = -1;
        for (int i = 0; i < lines.length; i++) {
            if (lines[i].matches("( {4}| {8})\\w.*\\) \\{")) {
                start = i;
            } else if (start >= 0 && lines[i].matches("( {4}| {8})\\}")) {
                if (i - start + 1 > 60) {
                    fault("11", "a method of " + (i - start + 1) + " lines: " + lines[start].trim());
                }
                start = -1;
            }
        }
    }
}
