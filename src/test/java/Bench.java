/** A Barnacle under test, with short ways to plant and read TREES and to tell what is due. */
final class Bench {
    private static final String[] SIGNS =
            {"", "", "+", "-", "*", "/", "min", "max", "if", "<", "=", "and", "or", "not"};
    private static final int[] PARTS = {0, 0, 2, 2, 2, 2, 2, 2, 3, 2, 2, 2, 2, 1};

    static int wrong = 0;

    final Barnacle x = new Barnacle();
    private int promise;

    Bench(int promise) {
        this.promise = promise;
    }

    /** The same bench, for what another promise says. */
    Bench of(int otherPromise) {
        promise = otherPromise;
        return this;
    }

    void due(String call, Object got, Object want) {
        if (!got.equals(want)) {
            wrong++;
            System.out.println("promise " + promise + ": " + call + " answered " + got + ", due is " + want);
        }
    }

    /** The call must throw just this, and change nothing. */
    void fails(String call, Class<? extends RuntimeException> want, Runnable made) {
        String before = state();
        Object got = "nothing";
        try {
            made.run();
        } catch (RuntimeException e) {
            got = e.getClass();
        }
        due(call + " thrown", got, want);
        due(call + " changed", state(), before);
    }

    /** All that can be asked without a change, with what breeding would bring by the settings. */
    String state() {
        StringBuilder text = new StringBuilder().append(x.digest());
        text.append(' ').append(x.sketched()).append(' ').append(x.waiting()).append(' ').append(x.luck());
        for (int tree = 0; tree < x.trees(); tree++) {
            text.append(' ').append(read(tree)).append(' ').append(x.merit(tree));
        }
        if (x.trees() > 0) {
            text.append(' ').append(x.errorBred(1)).append(' ').append(x.errorBred(4));
        }
        return text.toString();
    }

    /** Sketches NODES: numbers are CONSTANTS, a, b and c the inputs 0 to 2; answers what the last one answered. */
    int sketch(String nodes) {
        int missing = -1;
        for (String node : nodes.split(" ")) {
            int code = codeOf(node);
            int value = code == 0 ? Integer.parseInt(node) : code == 1 ? node.charAt(0) - 'a' : 0;
            missing = x.sketch(code, value);
        }
        return missing;
    }

    private static int codeOf(String node) {
        for (int code = 2; code < SIGNS.length; code++) {
            if (SIGNS[code].equals(node)) {
                return code;
            }
        }
        return node.length() == 1 && node.charAt(0) >= 'a' && node.charAt(0) <= 'c' ? 1 : 0;
    }

    int plant(String nodes) {
        sketch(nodes);
        return x.plant();
    }

    String read(int tree) {
        StringBuilder text = new StringBuilder();
        for (int place = 0; place < x.size(tree); place++) {
            int code = x.codeAt(tree, place);
            int value = x.valueAt(tree, place);
            text.append(place == 0 ? "" : " ");
            text.append(code == 0 ? "" + value : code == 1 ? "" + (char) ('a' + value) : SIGNS[code]);
        }
        return text.toString();
    }

    void tell(int... numbers) {
        for (int number : numbers) {
            x.tell(number);
        }
    }

    /** A TREE of this SIZE, and of the least DEPTH: SUMS with a as leaves. */
    static String wide(int size) {
        if (size < 3) {
            return "a";
        }
        int left = (size - 1) / 2;
        left -= left % 2 == 0 ? 1 : 0;
        return "+ " + wide(left) + " " + wide(size - 1 - left);
    }

    /** A TREE of this DEPTH and the least SIZE: SUMS, each the second part of the one above. */
    static String deep(int depth) {
        return depth == 1 ? "a" : "+ b " + deep(depth - 1);
    }

    static int partsOf(int code) {
        return PARTS[code];
    }
}
