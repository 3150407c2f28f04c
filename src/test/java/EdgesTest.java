import java.io.IOException;
import java.nio.file.Files;
import java.nio.file.Path;
import java.util.ArrayList;
import java.util.Collections;
import java.util.List;

/**
 * The cases under src/test/edges: each is one sentence of the document, on a new object. Behind each refused call
 * of a case two objects are compared, one with that call and one without: what is refused changes nothing.
 */
public final class EdgesTest {
    private static final Path CASES = Path.of("src/test/edges");
    private static final int MOST_CALLS = 512;

    private static List<Script.Case> probes;
    private static int wrong;
    private static int asked;
    private static int refused;

    public static void main(String[] args) throws IOException {
        probes = Script.read(CASES.resolve("probes.txt"));
        List<Path> files = new ArrayList<>();
        try (var all = Files.list(CASES)) {
            all.filter(f -> !f.endsWith("probes.txt")).forEach(files::add);
        }
        Collections.sort(files);
        int cases = 0;
        for (Path file : files) {
            for (Script.Case c : Script.read(file)) {
                cases++;
                run(file.getFileName() + ", " + c.title, c.steps);
            }
        }
        System.out.println("EdgesTest: " + cases + " cases, " + asked + " answers asked, " + refused + " refusals, " + wrong + " not as due");
        if (wrong > 0 || cases == 0 || probes.isEmpty()) {
            System.exit(1);
        }
    }

    private static void fault(String title, Script.Step step, String text) {
        wrong++;
        System.out.println(title + ", line " + step.line + ": " + step + " " + text);
    }

    private static void run(String title, List<Script.Step> steps) {
        PointsHome x = new PointsHome();
        if (steps.size() > MOST_CALLS) {
            fault(title, steps.get(MOST_CALLS), "is behind the last call that is promised");
        }
        for (int k = 0; k < steps.size(); k++) {
            Script.Step step = steps.get(k);
            long got = step.call(x);
            if (step.want != null) {
                asked++;
                if (got != step.want) {
                    fault(title, step, "answered " + got + ", due is " + step.want);
                }
            }
            if (step.refused) {
                refused++;
                compareWithout(title, steps, k);
            }
        }
    }

    private static void compareWithout(String title, List<Script.Step> steps, int refusedOne) {
        for (Script.Case probe : probes) {
            PointsHome with = new PointsHome();
            PointsHome without = new PointsHome();
            for (int k = 0; k <= refusedOne; k++) {
                steps.get(k).call(with);
                if (k < refusedOne) {
                    steps.get(k).call(without);
                }
            }
            for (Script.Step step : probe.steps) {
                long a = step.call(with);
                long b = step.call(without);
                if (a != b) {
                    fault(title, steps.get(refusedOne), "changed what " + step + " answers from " + b + " to " + a);
                    break;
                }
            }
        }
    }
}
