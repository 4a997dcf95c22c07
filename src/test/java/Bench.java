import java.util.function.Consumer;
import java.util.function.ToIntFunction;

/** A Barnacle under test, with short ways to plant and read TREES and to tell what is due. */
final class Bench {
    static final Class<IndexOutOfBoundsException> NO_PLACE = IndexOutOfBoundsException.class;
    static final Class<IllegalArgumentException> BAD = IllegalArgumentException.class;
    static final Class<IllegalStateException> NOT_NOW = IllegalStateException.class;

    private static final String[] SIGNS =
            {"", "", "+", "-", "*", "/", "min", "max", "if", "<", "=", "and", "or", "not"};
    private static final int[] PARTS = {0, 0, 2, 2, 2, 2, 2, 2, 3, 2, 2, 2, 2, 1};

    static int wrong = 0;
    static int checks = 0;

    final Barnacle x = new Barnacle();
    private String tested;

    Bench(int promise) {
        this("promise " + promise);
    }

    Bench(String tested) {
        this.tested = tested;
    }

    /** The same bench, for what another promise says. */
    Bench of(int otherPromise) {
        tested = "promise " + otherPromise;
        return this;
    }

    /** A new bench with these TREES, for the same test. */
    Bench fresh(String... trees) {
        Bench made = new Bench(tested);
        for (String nodes : trees) {
            made.plant(nodes);
        }
        return made;
    }

    void due(String call, Object got, Object want) {
        checks++;
        if (!got.equals(want)) {
            wrong++;
            System.out.println(tested + ": " + call + " answered " + got + ", due is " + want);
        }
    }

    /** The call must throw just this, and change nothing. */
    void fails(String call, Class<? extends RuntimeException> want, Runnable made) {
        String before = state();
        due(call + " thrown", thrownBy(made), want);
        due(call + " changed", state(), before);
    }

    /**
     * What a few calls can tell without a change, with what breeding would bring by the settings; few, as an object is
     * promised for 512 calls only.
     */
    String state() {
        StringBuilder text = new StringBuilder().append(x.digest()).append(' ').append(x.meanSize());
        if (x.trees() > 0) {
            text.append(' ').append(x.errorBred(1)).append(' ').append(x.errorBred(4));
        }
        return text.toString();
    }

    /** Made on a new bench that is so prepared, the call must throw just this, and leave all as it is without it. */
    void refuses(Class<? extends RuntimeException> want, String call, Consumer<Bench> prepared, Consumer<Barnacle> made) {
        Bench tried = fresh();
        prepared.accept(tried);
        due("what " + call + " throws", thrownBy(() -> made.accept(tried.x)), want);
        unchanged(call, tried, prepared);
    }

    /** Made on a new bench that is so prepared, the call must answer -1, and leave all as it is without it. */
    void denies(String call, Consumer<Bench> prepared, ToIntFunction<Barnacle> made) {
        Bench tried = fresh();
        prepared.accept(tried);
        due(call, made.applyAsInt(tried.x), -1);
        unchanged(call, tried, prepared);
    }

    /** Made on a new bench that is so prepared, the call must throw nothing. */
    void takes(String call, Consumer<Bench> prepared, Consumer<Barnacle> made) {
        Bench tried = fresh();
        prepared.accept(tried);
        due("what " + call + " throws", thrownBy(() -> made.accept(tried.x)), "nothing");
    }

    private static Object thrownBy(Runnable made) {
        try {
            made.run();
            return "nothing";
        } catch (RuntimeException e) {
            return e.getClass();
        }
    }

    private void unchanged(String call, Bench tried, Consumer<Bench> prepared) {
        Bench twin = fresh();
        prepared.accept(twin);
        due("all that can be told after " + call, tried.everything(), twin.everything());
    }

    /**
     * All that can be told, but at the cost of the bench: to see the SKETCH it is finished and planted, to see the
     * CASES, the DRAWS and the settings there are more TREES planted, and bred.
     */
    String everything() {
        StringBuilder text = new StringBuilder(64).append(x.digest()).append(' ').append(x.meanSize());
        finishSketch();
        for (String nodes : new String[] {"a", "+ b 1", "* c c"}) {
            if (x.trees() < 16) {
                plant(nodes);
            }
        }
        text.append(' ').append(x.digest()).append(' ').append(x.errorBred(10));
        for (int generations : new int[] {1, 1, 10}) {
            text.append(' ').append(x.breed(generations)).append(' ').append(x.digest());
        }
        text.append(' ').append(x.setWay(0, 0)).append(' ').append(x.setRates(0, 0, 0));
        return text.append(' ').append(x.setChoosing(1, 0)).append(' ').append(x.setLuck(0)).toString();
    }

    /** Takes the least that is missing, and plants it; the last TREE gives way, if there are 16. */
    int finishSketch() {
        int nodes = 0;
        while (nodes < 40 && (comes(0) || comes(9))) {
            nodes++;
        }
        if (x.trees() == 16) {
            x.fell(15);
        }
        return x.plant();
    }

    /** Whether this NODE, with 0 as a value, comes to the SKETCH. */
    boolean comes(int code) {
        try {
            x.sketch(code, 0);
            return true;
        } catch (IllegalStateException e) {
            return false;
        }
    }

    /** Something everywhere: TREES, CASES, numbers that wait, an OPEN SKETCH, and no setting as it was at first. */
    void fill() {
        plant("if < a 1 + b 2 c");
        plant("+ a 1");
        plant("* b if not = a b 2 c");
        x.addCase(1, 2, 3, 4);
        x.addCase(-5, 6, 7, -8);
        x.setWay(1, 3);
        x.setRates(40, 30, 20);
        x.setChoosing(3, 2);
        x.setLuck(1234);
        tell(3, 77, 12);
        sketch("+ a if");
    }

    /** As filled, but with 16 TREES, and a SKETCH that could be planted. */
    void fillGrove() {
        fill();
        x.erase();
        while (x.trees() < 16) {
            plant("- b " + x.trees());
        }
        sketch("/ a b");
    }

    /** Sketches NODES: numbers are CONSTANTS, a, b and c the inputs 0 to 2; answers what the last one answered. */
    int sketch(String nodes) {
        int missing = -1;
        for (String node : nodes.split(" ")) {
            int code = codeOf(node);
            int value = code == 0 ? Integer.parseInt(node) : code == 1 ? node.charAt(0) - 'a' : 0;
            missing = x.sketch(code, value);
        }
        return missing;
    }

    private static int codeOf(String node) {
        for (int code = 2; code < SIGNS.length; code++) {
            if (SIGNS[code].equals(node)) {
                return code;
            }
        }
        return node.length() == 1 && node.charAt(0) >= 'a' && node.charAt(0) <= 'c' ? 1 : 0;
    }

    int plant(String nodes) {
        sketch(nodes);
        return x.plant();
    }

    String read(int tree) {
        StringBuilder text = new StringBuilder();
        for (int place = 0; place < x.size(tree); place++) {
            int code = x.codeAt(tree, place);
            int value = x.valueAt(tree, place);
            text.append(place == 0 ? "" : " ");
            text.append(code == 0 ? "" + value : code == 1 ? "" + (char) ('a' + value) : SIGNS[code]);
        }
        return text.toString();
    }

    void tell(int... numbers) {
        for (int number : numbers) {
            x.tell(number);
        }
    }

    /** A TREE of this SIZE, and of the least DEPTH: SUMS with a as leaves. */
    static String wide(int size) {
        if (size < 3) {
            return "a";
        }
        int left = (size - 1) / 2;
        left -= left % 2 == 0 ? 1 : 0;
        return "+ " + wide(left) + " " + wide(size - 1 - left);
    }

    /** A TREE of this SIZE, whether odd or, from 6 on, even: then with a CHOICE as its root. */
    static String sized(int size) {
        if (size % 2 != 0) {
            return wide(size);
        }
        int left = (size - 4) / 2;
        left -= left % 2 == 0 ? 1 : 0;
        return "if < a b " + wide(left) + " " + wide(size - 4 - left);
    }

    /** A TREE of this DEPTH and the least SIZE: SUMS, each the second part of the one above. */
    static String deep(int depth) {
        return depth == 1 ? "a" : "+ b " + deep(depth - 1);
    }

    static int partsOf(int code) {
        return PARTS[code];
    }
}
