import java.io.ByteArrayOutputStream;
import java.io.IOException;
import java.io.PrintStream;
import java.lang.reflect.Method;
import java.lang.reflect.Modifier;
import java.net.URL;
import java.net.URLClassLoader;
import java.nio.file.DirectoryStream;
import java.nio.file.Files;
import java.nio.file.Path;
import java.util.LinkedHashMap;
import java.util.Map;
import java.util.Set;
import java.util.regex.Matcher;
import java.util.regex.Pattern;
import javax.tools.ToolProvider;

/** What README.md says holds: its example compiles and prints what stands there, its limits are those of the class. */
public final class ReadmeTest {
    private static final Pattern LIMIT = Pattern.compile("\\| (.+?) \\| (-?\\d+) \\| (-?\\d+) \\| .+ \\|");
    /** Less of these than none, or than one, cannot be tried. */
    private static final Set<String> COUNTED = Set.of("SIZE of a TREE", "DEPTH of a TREE", "TREES in the GROVE", "CASES",
            "TOLD numbers that wait");
    private static final Map<String, Use> USES = new LinkedHashMap<>();

    private static int wrong = 0;

    /** Makes calls on a new bench that throw if this number is beyond the limit. */
    private interface Use {
        void of(Bench bench, int number);
    }

    private ReadmeTest() {
    }

    public static void main(String[] args) throws IOException, ReflectiveOperationException {
        String readme = Files.readString(Path.of("README.md"));
        example(readme);
        fillUses();
        limits(readme);
        names(readme);
        System.out.println("ReadmeTest: " + (wrong == 0 ? "what README.md says holds" : wrong + " faults"));
        if (wrong != 0) {
            System.exit(1);
        }
    }

    private static void fault(String text) {
        wrong++;
        System.out.println(text);
    }

    // ---- the example

    private static void example(String readme) throws IOException, ReflectiveOperationException {
        Path place = Files.createTempDirectory("readme");
        Path source = place.resolve("Example.java");
        Files.writeString(source, block(readme, "java"));
        ByteArrayOutputStream faults = new ByteArrayOutputStream();
        int code = ToolProvider.getSystemJavaCompiler().run(null, null, faults, "-Xlint:all", "-Werror",
                "-cp", System.getProperty("java.class.path"), "-d", place.toString(), source.toString());
        if (code != 0) {
            fault("the example does not compile: " + faults);
        } else if (!printedBy(place).equals(block(readme, "text"))) {
            fault("the example prints something else:\n" + printedBy(place));
        }
        try (DirectoryStream<Path> files = Files.newDirectoryStream(place)) {
            for (Path file : files) {
                Files.delete(file);
            }
        }
        Files.delete(place);
    }

    private static String block(String readme, String kind) {
        String start = "```" + kind + "\n";
        int from = readme.indexOf(start);
        int to = readme.indexOf("```", from + start.length());
        return from < 0 || to < 0 ? "" : readme.substring(from + start.length(), to);
    }

    private static String printedBy(Path place) throws IOException, ReflectiveOperationException {
        PrintStream out = System.out;
        ByteArrayOutputStream printed = new ByteArrayOutputStream();
        try (URLClassLoader loader = new URLClassLoader(new URL[] {place.toUri().toURL()})) {
            System.setOut(new PrintStream(printed, true));
            loader.loadClass("Example").getMethod("main", String[].class).invoke(null, (Object) new String[0]);
        } finally {
            System.setOut(out);
        }
        return printed.toString().replace("\r\n", "\n");
    }

    // ---- the limits

    private static void fillUses() {
        USES.put("SIZE of a TREE", (bench, n) -> bench.plant(Bench.sized(n)));
        USES.put("DEPTH of a TREE", (bench, n) -> bench.plant(Bench.deep(n)));
        USES.put("TREES in the GROVE", (bench, n) -> times(n, () -> bench.plant("a")));
        USES.put("CASES", (bench, n) -> times(n, () -> bench.x.addCase(1, 2, 3, 4)));
        USES.put("TOLD numbers that wait", (bench, n) -> times(n, () -> bench.x.tell(5)));
        USES.put("code of a NODE", ReadmeTest::useCode);
        USES.put("value of a CONSTANT", (bench, n) -> bench.x.sketch(0, n));
        USES.put("value of an INPUT", (bench, n) -> bench.x.sketch(1, n));
        USES.put("what a NODE gives", ReadmeTest::useResult);
        USES.put("each input of a CASE, or of `gives`", ReadmeTest::useInput);
        USES.put("what is due", (bench, n) -> bench.x.addCase(1, 2, 3, n));
        USES.put("WAY", (bench, n) -> bench.x.setWay(n, 1));
        USES.put("WEIGHT", (bench, n) -> bench.x.setWay(1, n));
        USES.put("each of the RATES", ReadmeTest::useRate);
        USES.put("all three RATES together", (bench, n) -> bench.x.setRates(n / 3, n / 3, n - n / 3 * 2));
        USES.put("TOURNAMENT", (bench, n) -> bench.x.setChoosing(n, 1));
        USES.put("ELITE", (bench, n) -> bench.x.setChoosing(2, n));
        USES.put("LUCK", (bench, n) -> bench.x.setLuck(n));
        USES.put("a TOLD number", (bench, n) -> bench.x.tell(n));
        USES.put("generations of one `breed` or `errorBred`", ReadmeTest::useGenerations);
    }

    private static void times(int n, Runnable call) {
        for (int done = 0; done < n; done++) {
            call.run();
        }
    }

    private static void useCode(Bench bench, int code) {
        if (code > 8) {
            bench.sketch("if");
        }
        bench.x.sketch(code, 0);
    }

    /** What is cut at the limit is not taken. */
    private static void useResult(Bench bench, int number) {
        int rest = Math.abs(number) - 99 * 99 - 99 - 50;
        bench.plant((number < 0 ? "- - - * -99 99 99 50 " : "+ + + * 99 99 99 50 ") + rest);
        if (bench.x.gives(0, 0, 0, 0) != number) {
            throw new IllegalArgumentException();
        }
    }

    private static void useInput(Bench bench, int input) {
        bench.plant("a");
        int taken = 0;
        for (int which = 0; which < 3; which++) {
            int[] in = new int[3];
            in[which] = input;
            taken += taken(() -> bench.x.addCase(in[0], in[1], in[2], 0)) ? 1 : 0;
            taken += taken(() -> bench.x.gives(0, in[0], in[1], in[2])) ? 1 : 0;
        }
        refuse(taken, 6);
    }

    private static void useRate(Bench bench, int rate) {
        int taken = taken(() -> bench.x.setRates(rate, 0, 0)) ? 1 : 0;
        taken += taken(() -> bench.x.setRates(0, rate, 0)) ? 1 : 0;
        taken += taken(() -> bench.x.setRates(0, 0, rate)) ? 1 : 0;
        refuse(taken, 3);
    }

    private static void useGenerations(Bench bench, int generations) {
        bench.plant("a");
        int taken = taken(() -> bench.x.errorBred(generations)) ? 1 : 0;
        taken += taken(() -> bench.x.breed(generations)) ? 1 : 0;
        refuse(taken, 2);
    }

    private static void refuse(int taken, int all) {
        if (taken != 0 && taken != all) {
            fault("of " + all + " calls that should keep to the same limit, " + taken + " took a number");
        }
        if (taken == 0) {
            throw new IllegalArgumentException();
        }
    }

    private static boolean taken(Runnable call) {
        try {
            call.run();
            return true;
        } catch (IllegalArgumentException | IllegalStateException e) {
            return false;
        }
    }

    private static void limits(String readme) {
        Map<String, Use> unseen = new LinkedHashMap<>(USES);
        Matcher rows = LIMIT.matcher(readme);
        while (rows.find()) {
            Use use = unseen.remove(rows.group(1));
            if (use == null) {
                fault("this limit is not known, or told twice: " + rows.group(1));
                continue;
            }
            int from = Integer.parseInt(rows.group(2));
            int to = Integer.parseInt(rows.group(3));
            limit(rows.group(1), use, from, true);
            limit(rows.group(1), use, to, true);
            if (!COUNTED.contains(rows.group(1))) {
                limit(rows.group(1), use, from - 1, false);
            }
            if (to < Integer.MAX_VALUE) {
                limit(rows.group(1), use, to + 1, false);
            }
        }
        unseen.keySet().forEach(name -> fault("this limit is not told: " + name));
    }

    private static void limit(String name, Use use, int number, boolean due) {
        if (taken(() -> use.of(new Bench("README.md"), number)) != due) {
            fault(name + ": " + number + " is " + (due ? "refused" : "taken"));
        }
    }

    // ---- the names

    private static void names(String readme) throws IOException {
        for (Method method : Barnacle.class.getDeclaredMethods()) {
            if (Modifier.isPublic(method.getModifiers()) && !readme.contains("`" + method.getName() + "`")) {
                fault("this call is not named: " + method.getName());
            }
        }
        try (DirectoryStream<Path> tests = Files.newDirectoryStream(Path.of("src/test/java"))) {
            for (Path test : tests) {
                String name = test.getFileName().toString().replace(".java", "");
                if (!readme.contains("`" + name + "`")) {
                    fault("this file of the tests is not named: " + name);
                }
            }
        }
    }
}
