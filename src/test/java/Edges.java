import java.io.IOException;
import java.nio.file.Files;
import java.nio.file.Path;
import java.util.HashSet;
import java.util.LinkedHashMap;
import java.util.Map;
import java.util.Set;
import java.util.function.Consumer;

/**
 * Runs the tests of the sentences that name a boundary case, one for each. A test bears the words of the document, which
 * must stand in the section that it tells: so a sentence that changes there, or is misread here, is seen.
 */
final class Edges {
    private static final String EXCEPTIONS = "A method that throws an exception";

    private final String name;
    private final Map<String, String> sections = new LinkedHashMap<>();
    private final Set<String> tested = new HashSet<>();
    private int tests = 0;

    /** The first argument tells where the document is, if it is not beside the project. */
    Edges(String name, String[] args) {
        this.name = name;
        read(Path.of(args.length > 0 ? args[0] : "../shared/DOC.md"));
    }

    /** The sections are "What it is", "Terms 1" to "Terms 6", "Exceptions", "Promise 1" to "Promise 42" and the like. */
    private void read(Path document) {
        String section = "";
        try {
            for (String line : Files.readAllLines(document)) {
                if (line.startsWith("## ")) {
                    section = line.substring(3).replaceAll("(?<=^Promise \\d{1,2}):.*", "");
                } else if (section.startsWith("Terms") && line.matches("[1-6] [A-Z].*")) {
                    section = "Terms " + line.charAt(0);
                } else if (line.startsWith(EXCEPTIONS)) {
                    section = "Exceptions";
                }
                sections.merge(section, line + "\n", String::concat);
            }
        } catch (IOException e) {
            System.out.println(name + ": without " + document + " the words of the tests are not compared with it");
        }
    }

    void test(String section, String sentence, Consumer<Bench> test) {
        tests++;
        tested.add(section + sentence);
        if (!sections.isEmpty() && !sections.getOrDefault(section, "").contains(sentence)) {
            fault(section + " does not say: " + sentence);
        }
        Bench bench = new Bench(section + ", \"" + sentence + "\"");
        int checks = Bench.checks;
        try {
            test.accept(bench);
        } catch (RuntimeException e) {
            fault(section + ", \"" + sentence + "\": the test ends by " + e);
        }
        if (Bench.checks == checks) {
            fault(section + ", \"" + sentence + "\": nothing is checked");
        }
    }

    /** Whether all that a promise throws, or answers by -1 or 0 at a boundary, has a test with its words. */
    void allRefusalsAreTested() {
        for (Map.Entry<String, String> section : sections.entrySet()) {
            for (String line : section.getValue().split("\n")) {
                boolean refusal = line.startsWith("Throws ") || line.matches(".*Returns .*; (-1|0)\\b.*");
                String words = line.replaceAll(".*Returns .*; (?=(-1|0)\\b)", "");
                if (section.getKey().startsWith("Promise") && refusal && !tested.contains(section.getKey() + words)) {
                    fault(section.getKey() + " has no test of: " + words);
                }
            }
        }
    }

    /** Ends with exit code 1 if an answer was not as due. */
    void end() {
        System.out.println(name + ": " + tests + " sentences, "
                + (Bench.wrong == 0 ? "all answers are as due" : Bench.wrong + " faults"));
        if (Bench.wrong != 0) {
            System.exit(1);
        }
    }

    private static void fault(String text) {
        Bench.wrong++;
        System.out.println(text);
    }
}
