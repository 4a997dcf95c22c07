import java.io.IOException;
import java.lang.reflect.Constructor;
import java.lang.reflect.Field;
import java.lang.reflect.Method;
import java.lang.reflect.Modifier;
import java.nio.file.Files;
import java.nio.file.Path;
import java.util.ArrayList;
import java.util.Arrays;
import java.util.List;
import java.util.TreeSet;
import java.util.stream.Collectors;

/**
 * The class has just the document's public face, with the exceptions that it names, and nothing else to be seen. The face is
 * told here once more, and compared with the words of ../shared/DOC.md, the names of what is given included.
 */
public final class FaceTest {
    private static final String PLACE = "IndexOutOfBoundsException";
    private static final String BAD = "IllegalArgumentException";
    private static final String STATE = "IllegalStateException";

    private FaceTest() {
    }

    public static void main(String[] args) throws IOException {
        List<String> faults = new ArrayList<>();
        TreeSet<String> due = due();
        TreeSet<String> found = new TreeSet<>();
        List<String> hidden = new ArrayList<>();
        for (Method method : Barnacle.class.getDeclaredMethods()) {
            if (Modifier.isPublic(method.getModifiers())) {
                found.add(text(method));
            } else if (!Modifier.isPrivate(method.getModifiers()) && !method.isSynthetic()) {
                faults.add("is to be seen: " + method);
            } else {
                hidden.add(method.getName());
            }
        }
        for (String call : due) {
            if (!found.contains(call)) {
                faults.add("is missing: " + call);
            }
            String name = call.substring(call.indexOf(' ') + 1, call.indexOf('('));
            if (hidden.contains(name)) {
                faults.add("is private and bears a public name: " + name);
            }
        }
        found.removeAll(due);
        found.forEach(call -> faults.add("is too much: " + call));
        members(faults);
        words(faults);
        faults.forEach(System.out::println);
        System.out.println("FaceTest: " + (faults.isEmpty() ? "the face is as due" : faults.size() + " faults"));
        if (!faults.isEmpty()) {
            System.exit(1);
        }
    }

    private static void members(List<String> faults) {
        if (Barnacle.class.getModifiers() != (Modifier.PUBLIC | Modifier.FINAL)) {
            faults.add("is not public and final alone");
        }
        for (Constructor<?> constructor : Barnacle.class.getDeclaredConstructors()) {
            if (constructor.getParameterCount() != 0 || !Modifier.isPublic(constructor.getModifiers())) {
                faults.add("is too much: " + constructor);
            }
        }
        for (Field field : Barnacle.class.getDeclaredFields()) {
            if (!Modifier.isPrivate(field.getModifiers())) {
                faults.add("is to be seen: " + field);
            }
            if (Modifier.isStatic(field.getModifiers()) && !Modifier.isFinal(field.getModifiers())) {
                faults.add("is static and not final: " + field);
            }
        }
    }

    /** Each line of the face, in its order, stands in the program; and each promise's heading is a line of the face. */
    private static void words(List<String> faults) throws IOException {
        String document = Files.readString(Path.of("../shared/DOC.md"));
        String program = Files.readString(Path.of("src/main/java/Barnacle.java")).replaceAll("\\s+", " ");
        List<String> face = document.substring(document.indexOf("```java"), document.indexOf("## Terms")).lines()
                .filter(line -> line.matches(" +public .*;")).map(line -> line.strip().replace(";", "")).toList();
        int last = -1;
        for (String line : face) {
            int here = program.indexOf(" " + line + " {");
            if (here <= last) {
                faults.add("is missing, or in another order: " + line);
            }
            last = Math.max(last, here);
        }
        List<String> headings = document.lines().filter(line -> line.matches("`[^`]+\\)[^`]*`: .*"))
                .map(line -> "public " + line.substring(1, line.indexOf("`: "))).toList();
        if (face.size() != 42 || !face.equals(headings)) {
            faults.add("the document's face is not that of its promises");
        }
    }

    private static String text(Method method) {
        String given = Arrays.stream(method.getParameterTypes()).map(Class::getSimpleName).collect(Collectors.joining(" "));
        String thrown = Arrays.stream(method.getExceptionTypes()).map(Class::getSimpleName).collect(Collectors.joining(" "));
        return method.getReturnType().getSimpleName() + " " + method.getName() + "(" + given + ") " + thrown;
    }

    private static TreeSet<String> due() {
        TreeSet<String> due = new TreeSet<>();
        add(due, 0, "", "erase", "sketched", "trees", "cases", "different", "generations", "misses", "luck", "waiting");
        add(due, 0, STATE, "plant");
        add(due, 1, PLACE, "fell", "simplify", "size", "depth", "error", "merit", "hits", "ranked", "bestHoist");
        add(due, 1, BAD, "setLuck");
        add(due, 1, BAD + " " + STATE, "tell", "breed", "errorBred");
        add(due, 2, BAD + " " + STATE, "sketch");
        add(due, 2, BAD, "setWay", "setChoosing");
        add(due, 2, PLACE, "hoist", "codeAt", "valueAt", "sizeAt", "above", "alike");
        add(due, 3, PLACE + " " + BAD, "wither");
        add(due, 3, BAD, "setRates");
        add(due, 4, BAD + " " + STATE, "addCase");
        add(due, 4, PLACE, "cross", "errorCrossed");
        add(due, 4, PLACE + " " + BAD, "recode", "gives");
        due.add("double meanSize() ");
        due.add("long digest() ");
        return due;
    }

    private static void add(TreeSet<String> due, int given, String thrown, String... names) {
        String ints = String.join(" ", java.util.Collections.nCopies(given, "int"));
        for (String name : names) {
            due.add("int " + name + "(" + ints + ") " + thrown);
        }
    }
}
