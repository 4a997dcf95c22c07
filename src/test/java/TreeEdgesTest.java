import java.util.Arrays;

/** The boundary cases of the points 1 and 2 of the Terms: what a TREE is and gives, and what can come to the SKETCH. */
public final class TreeEdgesTest {
    private static final String[] BENEATH = {"", "", "NN", "NN", "NN", "NN", "NN", "NN", "CNN", "NN", "NN", "CC", "CC", "C"};
    private static final String[] SIGNS = {"", "", "+", "-", "*", "/", "min", "max", "if", "<", "=", "and", "or", "not"};
    /** How many NODES a TREE has at least with each code, more than with the least in its place: what point 2 counts. */
    private static final int[] MORE = {0, 0, 2, 2, 2, 2, 2, 2, 5, 0, 0, 4, 4, 1};
    /** How many levels each code needs at least, its own counted. */
    private static final int[] LEVELS = {1, 1, 2, 2, 2, 2, 2, 2, 3, 2, 2, 3, 3, 3};
    private static final int[] FAR_FROM_VALUES = {-100, 100, Integer.MIN_VALUE, Integer.MAX_VALUE};

    private TreeEdgesTest() {
    }

    public static void main(String[] args) {
        Edges edges = new Edges("TreeEdgesTest", args);
        trees(edges);
        given(edges);
        sketch(edges);
        edges.end();
    }

    private static void trees(Edges edges) {
        String one = "Terms 1";
        edges.test(one, "those of 0 to 8 are NUMBERS, those of 9 to 13 are CONDITIONS", TreeEdgesTest::types);
        edges.test(one, "0 CONSTANT and 1 INPUT have a value, -99 to 99, and 0 to 2, and nothing beneath them",
                TreeEdgesTest::values);
        edges.test(one, "All others have ones beneath them, in order", TreeEdgesTest::beneath);
        edges.test(one, "A TREE has a NUMBER as its root.", TreeEdgesTest::root);
        edges.test(one, "The PLACES of a TREE are numbered from 0", TreeEdgesTest::places);
        edges.test(one, "Its SIZE is how many NODES it has", TreeEdgesTest::sizes);
        edges.test(one, "its DEPTH how many there are on the longest way from the root down, the root counted",
                TreeEdgesTest::depths);
        edges.test(one, "A TREE has a SIZE up to 40", TreeEdgesTest::largest);
        edges.test(one, "and a DEPTH up to 8.", TreeEdgesTest::deepest);
    }

    private static void given(Edges edges) {
        String one = "Terms 1";
        edges.test("Terms", "/ is cut towards 0.", TreeEdgesTest::cut);
        edges.test(one, "an INPUT the input with this number", TreeEdgesTest::inputs);
        edges.test(one, "or the first one, if the second one is 0", TreeEdgesTest::dividedByNothing);
        edges.test(one, "LESSER and GREATER the lesser, the greater one of both", TreeEdgesTest::lesserAndGreater);
        edges.test(one, "CHOICE the first NUMBER, if its CONDITION holds, otherwise the second one", TreeEdgesTest::choice);
        edges.test(one, "BELOW holds, if the first one is less than the second one", TreeEdgesTest::below);
        edges.test(one, "SAME, if both are the same", TreeEdgesTest::same);
        edges.test(one, "BOTH, EITHER and NOT as one knows them", TreeEdgesTest::bothEitherNot);
        edges.test(one, "All numbers that are more than 9999 become 9999", TreeEdgesTest::most);
        edges.test(one, "those less than -9999 become -9999", TreeEdgesTest::least);
        edges.test(one, "NODE by NODE", TreeEdgesTest::nodeByNode);
    }

    private static void sketch(Edges edges) {
        String two = "Terms 2";
        edges.test(two, "THE SKETCH is a row of NODES (none, at first)", TreeEdgesTest::noneAtFirst);
        edges.test(two, "It is OPEN, as long as NODES are missing to make a TREE", TreeEdgesTest::open);
        edges.test(two, "a NODE can come to it only if it is of the type that is missing next", TreeEdgesTest::missingType);
        edges.test(two, "if what comes of it could still have a SIZE and DEPTH that are allowed", TreeEdgesTest::stillAllowed);
        edges.test(two, "all that is missing then is asked", TreeEdgesTest::allThatIsMissing);
        edges.test(two, "each NUMBER taken as one NODE", TreeEdgesTest::numberAsOne);
        edges.test(two, "each CONDITION as three", TreeEdgesTest::conditionAsThree);
        edges.test(two, "one above two", TreeEdgesTest::oneAboveTwo);
        edges.test(two, "The GROVE has at most 16 TREES, numbered from 0, one behind the other.", TreeEdgesTest::grove);
    }

    // ---- point 1: what a TREE is

    private static void types(Bench t) {
        for (int code = 0; code <= 13; code++) {
            boolean number = code <= 8;
            t.due("whether " + code + " comes as a NUMBER", t.fresh().comes(code), number);
            Bench choice = t.fresh();
            choice.sketch("if");
            t.due("whether " + code + " comes as a CONDITION", choice.comes(code), !number);
        }
    }

    private static void values(Bench t) {
        for (int value : new int[] {-99, -98, 0, 98, 99}) {
            Bench made = t.fresh();
            t.due("missing behind CONSTANT " + value, made.x.sketch(0, value), 0);
            made.x.plant();
            t.due("size()", made.x.size(0), 1);
            t.due("valueAt()", made.x.valueAt(0, 0), value);
            t.due("gives()", made.x.gives(0, 1, 2, 3), value);
        }
        for (int value = 0; value <= 2; value++) {
            Bench made = t.fresh();
            t.due("missing behind INPUT " + value, made.x.sketch(1, value), 0);
            made.x.plant();
            t.due("size()", made.x.size(0), 1);
            t.due("valueAt()", made.x.valueAt(0, 0), value);
        }
        for (int value : FAR_FROM_VALUES) {
            t.refuses(Bench.BAD, "CONSTANT " + value, Bench::fill, x -> x.sketch(0, value));
        }
        for (int value : new int[] {-1, 3, Integer.MIN_VALUE, Integer.MAX_VALUE}) {
            t.refuses(Bench.BAD, "INPUT " + value, Bench::fill, x -> x.sketch(1, value));
        }
    }

    private static void beneath(Bench t) {
        for (int code = 2; code <= 13; code++) {
            int parts = BENEATH[code].length();
            for (int part = 0; part < parts; part++) {
                boolean number = BENEATH[code].charAt(part) == 'N';
                Bench begun = begun(t, code, part);
                String which = "as part " + part + " of " + SIGNS[code];
                t.due("whether a CONDITION comes " + which, begun.comes(9), !number);
                t.due("whether a NUMBER comes " + which, begun(t, code, part).comes(0), number);
            }
            Bench whole = begun(t, code, parts);
            if (code <= 8) {
                t.due("whether one more comes beneath " + SIGNS[code], whole.comes(0) || whole.comes(9), false);
                t.due("plant()", whole.x.plant(), 0);
            } else {
                t.due("whether one more comes beneath " + SIGNS[code], whole.comes(9), false);
                t.due("sketch() of the next part of the CHOICE", whole.x.sketch(0, 1), 1);
            }
        }
    }

    /** A SKETCH with this code, as the CONDITION of a CHOICE if it is one, and so many of its parts. */
    private static Bench begun(Bench t, int code, int parts) {
        Bench begun = t.fresh();
        begun.sketch((code > 8 ? "if " : "") + SIGNS[code]);
        for (int part = 0; part < parts; part++) {
            begun.sketch(BENEATH[code].charAt(part) == 'N' ? "1" : "< 1 2");
        }
        return begun;
    }

    private static void root(Bench t) {
        for (int code = 0; code <= 8; code++) {
            Bench made = t.fresh();
            t.due("whether the root " + code + " comes", made.comes(code), true);
            t.due("finishing it", made.finishSketch(), 0);
            t.due("codeAt()", made.x.codeAt(0, 0), code);
        }
        for (int code = 9; code <= 13; code++) {
            int root = code;
            t.refuses(Bench.NOT_NOW, "the root " + code, bench -> bench.plant("a"), x -> x.sketch(root, 0));
        }
        t.denies("a CONDITION left alone", Bench::fill, x -> x.hoist(0, 1));
        t.denies("a CONDITION put at the root", Bench::fill, x -> x.cross(0, 0, 2, 3));
    }

    private static void places(Bench t) {
        Bench made = t.fresh("if < a 1 + b 2 c");
        int[] codes = {8, 9, 1, 0, 2, 1, 0, 1};
        for (int place = 0; place < codes.length; place++) {
            t.due("codeAt(0, " + place + ")", made.x.codeAt(0, place), codes[place]);
        }
        for (int place : new int[] {-1, 8}) {
            t.refuses(Bench.NO_PLACE, "PLACE " + place, Bench::fill, x -> x.codeAt(0, place));
        }
        Bench large = t.fresh(Bench.sized(40));
        t.due("codeAt(0, 39)", large.x.codeAt(0, 39), 1);
        t.refuses(Bench.NO_PLACE, "PLACE 40", bench -> bench.plant(Bench.sized(40)), x -> x.codeAt(0, 40));
        t.due("codeAt(0, 0) of a leaf", t.fresh("7").x.codeAt(0, 0), 0);
        t.refuses(Bench.NO_PLACE, "PLACE 1 of a leaf", bench -> bench.plant("7"), x -> x.codeAt(0, 1));
    }

    private static void sizes(Bench t) {
        int[] sizes = {1, 3, 5, 6, 7, 38, 39, 40};
        for (int size : sizes) {
            t.due("size()", t.fresh(Bench.sized(size)).x.size(0), size);
        }
    }

    private static void depths(Bench t) {
        String[] trees = {"a", "+ a b", "+ + a b c", "+ a + b c", "if < a b 1 2", "if not < a b 1 2", "if < a b + 1 2 3",
            "if < a b 1 + 2 + 3 4", "if and < a b not = + a b c 1 2"};
        int[] depths = {1, 2, 3, 3, 3, 4, 3, 4, 6};
        for (int tree = 0; tree < trees.length; tree++) {
            t.due("depth() of " + trees[tree], t.fresh(trees[tree]).x.depth(0), depths[tree]);
        }
    }

    private static void largest(Bench t) {
        for (int size : new int[] {39, 40}) {
            Bench made = t.fresh();
            t.due("missing of a SIZE of " + size, made.sketch(Bench.sized(size)), 0);
            t.due("plant()", made.x.plant(), 0);
            t.due("size()", made.x.size(0), size);
        }
        for (int size : new int[] {41, 42}) {
            t.due("whether a SIZE of " + size + " can be", canBe(t, Bench.sized(size)), false);
        }
        // 39 NODES, and 40, of which 5 are crossed by 6
        t.due("cross() to 40", t.fresh("+ + a + a b " + Bench.sized(33), "if < a b a b").x.cross(0, 1, 1, 0), 40);
        t.denies("cross() to 41", TreeEdgesTest::fullTree, x -> x.cross(0, 1, 1, 0));
    }

    private static void fullTree(Bench t) {
        t.plant("+ + a + a b " + Bench.sized(34));
        t.plant("if < a b a b");
    }

    private static boolean canBe(Bench t, String nodes) {
        try {
            t.fresh(nodes);
            return true;
        } catch (IllegalStateException e) {
            return false;
        }
    }

    private static void deepest(Bench t) {
        for (int depth : new int[] {7, 8}) {
            t.due("depth()", t.fresh(Bench.deep(depth)).x.depth(0), depth);
        }
        t.due("whether a DEPTH of 9 can be", canBe(t, Bench.deep(9)), false);
        t.due("whether a DEPTH of 9 can be on the left", canBe(t, "+ ".repeat(8) + "a b" + " b".repeat(7)), false);
        t.due("whether a DEPTH of 8 can be on the left", canBe(t, "+ ".repeat(7) + "a b" + " b".repeat(6)), true);
        t.due("cross() to 8", t.fresh(Bench.deep(7), "+ a b").x.cross(0, 12, 1, 0), 15);
        t.denies("cross() to 9", bench -> bench.plant(Bench.deep(8)), x -> x.cross(0, 14, 0, 12));
    }

    // ---- point 1: what a TREE gives

    private static void gives(Bench t, String nodes, int a, int b, int c, int due) {
        t.due("what " + nodes + " gives for " + a + ", " + b + ", " + c, t.fresh(nodes).x.gives(0, a, b, c), due);
    }

    private static void cut(Bench t) {
        gives(t, "/ a b", 1, 2, 0, 0);
        gives(t, "/ a b", -1, 2, 0, 0);
        gives(t, "/ a b", 2, 2, 0, 1);
        gives(t, "/ a b", 5, 3, 0, 1);
        gives(t, "/ a b", -5, 3, 0, -1);
        gives(t, "/ a b", 5, -3, 0, -1);
        gives(t, "/ a b", -5, -3, 0, 1);
        gives(t, "/ a b", -99, 99, 0, -1);
        gives(t, "/ a b", -98, 99, 0, 0);
    }

    private static void inputs(Bench t) {
        for (int edge : new int[] {-99, 0, 99}) {
            gives(t, "a", edge, 1, 2, edge);
            gives(t, "b", 1, edge, 2, edge);
            gives(t, "c", 1, 2, edge, edge);
        }
    }

    private static void dividedByNothing(Bench t) {
        for (int first : new int[] {-99, -1, 0, 1, 99}) {
            gives(t, "/ a b", first, 0, 0, first);
            gives(t, "/ a b", first, 1, 0, first);
            gives(t, "/ a b", first, -1, 0, -first);
            gives(t, "/ a 0", first, 5, 0, first);
            gives(t, "/ a - b b", first, 5, 0, first);
            gives(t, "/ a / 1 2", first, 5, 0, first);
        }
        gives(t, "/ * 99 * 99 99 a", 0, 0, 0, 9999);
        gives(t, "/ * -99 * 99 99 a", 0, 0, 0, -9999);
    }

    private static void lesserAndGreater(Bench t) {
        int[][] pairs = {{4, 5}, {5, 4}, {5, 5}, {-1, 0}, {0, -1}, {-99, 99}, {99, -99}};
        for (int[] pair : pairs) {
            gives(t, "min a b", pair[0], pair[1], 0, Math.min(pair[0], pair[1]));
            gives(t, "max a b", pair[0], pair[1], 0, Math.max(pair[0], pair[1]));
        }
    }

    private static void choice(Bench t) {
        gives(t, "if = a b 11 22", 1, 1, 0, 11);
        gives(t, "if = a b 11 22", 1, 2, 0, 22);
        gives(t, "if = a b c 22", 1, 1, 33, 33);
        gives(t, "if = a b 11 c", 1, 2, 33, 33);
        // what the CONDITION compares is no matter, whatever it gives: here 1 and 0
        gives(t, "if = a 0 11 22", 0, 0, 0, 11);
        gives(t, "if < a 1 11 22", 0, 0, 0, 11);
    }

    private static void below(Bench t) {
        int[][] pairs = {{4, 5, 1}, {5, 5, 0}, {6, 5, 0}, {-1, 0, 1}, {0, 0, 0}, {0, -1, 0}, {-99, -98, 1}, {-99, -99, 0},
            {-98, -99, 0}, {98, 99, 1}, {99, 99, 0}, {99, 98, 0}, {-99, 99, 1}, {99, -99, 0}};
        for (int[] pair : pairs) {
            gives(t, "if < a b 1 0", pair[0], pair[1], 0, pair[2]);
        }
    }

    private static void same(Bench t) {
        int[][] pairs = {{4, 5, 0}, {5, 5, 1}, {6, 5, 0}, {0, 0, 1}, {-5, 5, 0}, {-99, -99, 1}, {99, 99, 1}, {-99, 99, 0}};
        for (int[] pair : pairs) {
            gives(t, "if = a b 1 0", pair[0], pair[1], 0, pair[2]);
        }
    }

    private static void bothEitherNot(Bench t) {
        for (int first = 0; first <= 1; first++) {
            for (int second = 0; second <= 1; second++) {
                gives(t, "if and = a 1 = b 1 1 0", first, second, 0, first == 1 && second == 1 ? 1 : 0);
                gives(t, "if or = a 1 = b 1 1 0", first, second, 0, first == 1 || second == 1 ? 1 : 0);
            }
        }
        // each kind of CONDITION, where it holds and where not, beneath each of the others
        for (String condition : new String[] {"= a 1", "< 0 a", "not = a 0", "not < a 1", "and = a 1 < 0 a", "or = a 1 < 0 a"}) {
            for (int holds = 0; holds <= 1; holds++) {
                gives(t, "if " + condition + " 1 0", holds, 0, 0, holds);
                gives(t, "if not " + condition + " 1 0", holds, 0, 0, 1 - holds);
                gives(t, "if not not " + condition + " 1 0", holds, 0, 0, holds);
                gives(t, "if and " + condition + " = b 0 1 0", holds, 0, 0, holds);
                gives(t, "if and = b 0 " + condition + " 1 0", holds, 0, 0, holds);
                gives(t, "if and = b 1 " + condition + " 1 0", holds, 0, 0, 0);
                gives(t, "if or " + condition + " = b 1 1 0", holds, 0, 0, holds);
                gives(t, "if or = b 1 " + condition + " 1 0", holds, 0, 0, holds);
                gives(t, "if or = b 0 " + condition + " 1 0", holds, 0, 0, 1);
            }
        }
    }

    private static void most(Bench t) {
        gives(t, "+ * 99 99 + 99 a", 98, 0, 0, 9998);
        gives(t, "+ * 99 99 + 99 a", 99, 0, 0, 9999);
        gives(t, "+ * 99 99 + 99 + 1 a", 99, 0, 0, 9999);
        gives(t, "- * 99 99 * -99 a", 2, 0, 0, 9999);
        gives(t, "- * 99 99 * -99 a", 3, 0, 0, 9999);
        gives(t, "* 99 + 99 a", 1, 0, 0, 9900);
        gives(t, "* 99 + 99 a", 2, 0, 0, 9999);
        gives(t, "* 99 + 99 a", 3, 0, 0, 9999);
        // 99 to the power of 8, far beyond what an int holds
        gives(t, "* * * a a * a a * * a a * a a", 99, 0, 0, 9999);
        gives(t, "* * * a a a * * a a a", -99, 0, 0, 9999);
    }

    private static void least(Bench t) {
        gives(t, "- * -99 99 + 99 a", 98, 0, 0, -9998);
        gives(t, "- * -99 99 + 99 a", 99, 0, 0, -9999);
        gives(t, "- * -99 99 + 99 + 1 a", 99, 0, 0, -9999);
        gives(t, "+ * -99 99 * -99 a", 2, 0, 0, -9999);
        gives(t, "+ * -99 99 * -99 a", 3, 0, 0, -9999);
        gives(t, "* -99 + 99 a", 2, 0, 0, -9999);
        gives(t, "* -99 + 99 a", 3, 0, 0, -9999);
        gives(t, "* * * a a a * * a b a", 99, -99, 0, -9999);
    }

    private static void nodeByNode(Bench t) {
        gives(t, "- * 99 + 99 a 1", 2, 0, 0, 9998);
        gives(t, "- * 99 + 99 a 1", 3, 0, 0, 9998);
        gives(t, "+ * -99 + 99 a 1", 3, 0, 0, -9998);
        gives(t, "/ * 99 + 99 a 2", 3, 0, 0, 4999);
        gives(t, "min * 99 + 99 a * 99 + 99 2", 3, 0, 0, 9999);
        gives(t, "- max * 99 + 99 a 1 * 99 99", 3, 0, 0, 198);
        gives(t, "if = * 99 + 99 a * 99 + 99 2 1 0", 3, 0, 0, 1);
        gives(t, "if < * 99 + 99 2 * 99 + 99 a 1 0", 3, 0, 0, 0);
        gives(t, "- + * 99 99 * 99 99 * 99 99", 0, 0, 0, 198);
        gives(t, "+ - * -99 99 * 99 99 * 99 99", 0, 0, 0, -198);
        // the same with CONSTANTS alone
        gives(t, "- * * 10 10 * 10 10 1", 0, 0, 0, 9998);
    }

    // ---- point 2: the SKETCH

    private static void noneAtFirst(Bench t) {
        t.due("sketched()", t.x.sketched(), 0);
        t.due("erase()", t.fresh().x.erase(), 0);
        t.refuses(Bench.NOT_NOW, "plant() of none", bench -> { }, Barnacle::plant);
        t.due("sketch() of the first", t.fresh().x.sketch(2, 0), 2);
        t.due("sketched() behind the first", sketchedBehind(t, "+"), 1);
    }

    private static int sketchedBehind(Bench t, String nodes) {
        Bench made = t.fresh();
        made.sketch(nodes);
        return made.x.sketched();
    }

    private static void open(Bench t) {
        String[] nodes = {"if", "<", "a", "1", "+", "b", "2", "c"};
        int[] missing = {3, 4, 3, 2, 3, 2, 1, 0};
        Bench made = t.fresh();
        for (int step = 0; step < nodes.length; step++) {
            String so = String.join(" ", Arrays.copyOf(nodes, step));
            t.refuses(Bench.NOT_NOW, "plant() of " + so, bench -> sketch(bench, so), Barnacle::plant);
            t.due("sketch() of " + nodes[step], made.sketch(nodes[step]), missing[step]);
        }
        String whole = String.join(" ", nodes);
        for (int code = 0; code <= 13; code++) {
            int more = code;
            t.refuses(Bench.NOT_NOW, code + " behind a TREE", bench -> sketch(bench, whole), x -> x.sketch(more, 0));
        }
        t.due("plant()", made.x.plant(), 0);
    }

    private static void sketch(Bench t, String nodes) {
        if (!nodes.isEmpty()) {
            t.sketch(nodes);
        }
    }

    private static void missingType(Bench t) {
        // by turns a NUMBER and a CONDITION are missing next
        String[] numbers = {"", "if < a 1", "if <", "if < a", "if < a 1 b", "+", "+ a"};
        String[] conditions = {"if", "if not", "if and", "if and < a 1", "+ if", "+ a if"};
        for (int code = 0; code <= 13; code++) {
            int next = code;
            for (String nodes : code <= 8 ? conditions : numbers) {
                t.refuses(Bench.NOT_NOW, code + " behind " + nodes, bench -> sketch(bench, nodes), x -> x.sketch(next, 0));
            }
            for (String nodes : code <= 8 ? numbers : conditions) {
                t.takes(code + " behind " + nodes, bench -> sketch(bench, nodes), x -> x.sketch(next, 0));
            }
        }
    }

    /** A SKETCH that needs so many NODES at least, with a NUMBER or a CONDITION missing next, and room for levels. */
    private static String needing(int least, boolean number) {
        return number ? "+ " + Bench.sized(least - 2) : "+ " + Bench.sized(least - 7) + " if";
    }

    private static void stillAllowed(Bench t) {
        for (int code = 2; code <= 13; code++) {
            int next = code;
            boolean number = code <= 8;
            String fits = needing(40 - MORE[code], number);
            Bench made = t.fresh();
            made.sketch(fits);
            t.due("whether " + code + " comes that makes it 40", made.comes(code), true);
            made.finishSketch();
            t.due("size()", made.x.size(0), 40);
            if (MORE[code] > 0) {
                String over = needing(41 - MORE[code], number);
                t.refuses(Bench.NOT_NOW, code + " that makes it 41", bench -> bench.sketch(over), x -> x.sketch(next, 0));
            }
            levels(t, code);
        }
        Bench leaf = t.fresh();
        leaf.sketch(needing(40, true));
        t.due("whether a leaf comes as the 40th", leaf.comes(0), true);
        t.due("whether another one comes", leaf.comes(0), false);
    }

    /** A SKETCH with what is missing next at a level, the root at level 1. */
    private static String atLevel(int level, boolean number) {
        String chain = "+ a ".repeat(level - (number ? 1 : 2));
        return (number ? chain : chain + "if").trim();
    }

    private static void levels(Bench t, int code) {
        boolean number = code <= 8;
        int lowest = 9 - LEVELS[code];
        Bench made = t.fresh();
        sketch(made, atLevel(lowest, number));
        t.due("whether " + code + " comes at level " + lowest, made.comes(code), true);
        made.finishSketch();
        t.due("depth()", made.x.depth(0), 8);
        // a CONDITION cannot be missing below level 7, where BELOW and SAME still come
        if (number || lowest < 7) {
            String nodes = atLevel(lowest + 1, number);
            t.refuses(Bench.NOT_NOW, code + " below level " + lowest, bench -> bench.sketch(nodes), x -> x.sketch(code, 0));
        }
    }

    /** What is missing further up counts, too, not only what is missing next. */
    private static void allThatIsMissing(Bench t) {
        // five BOTH: 26 at least; each further one makes 4 more, till 38
        String nodes = "if and and and and and < a b < a b and < a b < a b and < a b < a b and < a b";
        Bench made = t.fresh();
        t.due("sketch()", made.sketch(nodes), 4);
        t.due("whether BOTH comes that makes it 42", made.comes(11), false);
        t.due("whether EITHER comes that makes it 42", made.comes(12), false);
        t.due("whether NOT comes that makes it 39", made.comes(13), true);
        t.due("whether BOTH comes that makes it 43", made.comes(11), false);
        made.sketch("< a b");
        t.due("whether NOT comes that makes it 40", made.comes(13), true);
        t.due("whether NOT comes that makes it 41", made.comes(13), false);
        made.sketch("< a b");
        t.due("whether a SUM comes that makes it 42", made.comes(2), false);
        t.due("missing at the end", made.sketch("a b"), 0);
        t.due("sketched()", made.x.sketched(), 40);
    }

    private static void numberAsOne(Bench t) {
        // SUMS down to level 7 need 8 leaves: the 15 NODES of a TREE of DEPTH 8
        Bench made = t.fresh();
        t.due("missing behind seven SUMS", made.sketch("+ + + + + + +"), 8);
        t.due("whether an eighth SUM comes", made.comes(2), false);
        t.due("missing behind a leaf", made.sketch("a"), 7);
        made.finishSketch();
        t.due("size()", made.x.size(0), 15);
        for (int least : new int[] {38, 39}) {
            Bench one = t.fresh();
            one.sketch("if < a b " + Bench.sized(least - 5));
            t.due("whether a SUM comes that makes it " + (least + 2), one.comes(2), least == 38);
            Bench two = t.fresh();
            two.sketch("+ + " + Bench.sized(least - 4));
            t.due("whether a SUM comes that makes it " + (least + 2) + ", with two missing", two.comes(2), least == 38);
        }
        for (int least : new int[] {35, 36}) {
            Bench two = t.fresh();
            two.sketch("+ + " + Bench.sized(least - 4));
            t.due("whether a CHOICE comes that makes it " + (least + 5), two.comes(8), least == 35);
        }
    }

    private static void conditionAsThree(Bench t) {
        for (int least : new int[] {35, 36}) {
            Bench choice = t.fresh();
            choice.sketch(needing(least, true));
            t.due("whether a CHOICE comes that makes it " + (least + 5), choice.comes(8), least == 35);
        }
        for (int code = 11; code <= 12; code++) {
            for (int least : new int[] {36, 37}) {
                Bench pair = t.fresh();
                pair.sketch(needing(least, false));
                t.due("whether " + code + " comes that makes it " + (least + 4), pair.comes(code), least == 36);
            }
        }
        for (int least : new int[] {39, 40}) {
            Bench not = t.fresh();
            not.sketch(needing(least, false));
            t.due("whether NOT comes that makes it " + (least + 1), not.comes(13), least == 39);
        }
        for (int code = 9; code <= 10; code++) {
            Bench full = t.fresh();
            full.sketch(needing(40, false));
            t.due("whether " + code + " comes that leaves it 40", full.comes(code), true);
        }
    }

    private static void oneAboveTwo(Bench t) {
        // a CONDITION stands for one NODE above two: two levels
        for (int code : new int[] {8, 11, 12, 13}) {
            boolean number = code == 8;
            for (int level : new int[] {6, 7}) {
                Bench made = t.fresh();
                made.sketch(atLevel(level, number));
                t.due("whether " + code + " comes at level " + level, made.comes(code), level == 6);
            }
        }
        for (int code = 9; code <= 10; code++) {
            Bench made = t.fresh();
            made.sketch(atLevel(7, false));
            t.due("whether " + code + " comes at level 7", made.comes(code), true);
            made.finishSketch();
            t.due("depth()", made.x.depth(0), 8);
        }
        // also in the second CONDITION of BOTH, and beneath NOT
        Bench second = t.fresh();
        second.sketch("+ a + a + a + a if and < a b");
        t.due("whether BOTH comes as the second one at level 7", second.comes(11), false);
        t.due("whether BELOW comes as the second one at level 7", second.comes(9), true);
    }

    private static void grove(Bench t) {
        for (int tree = 0; tree < 16; tree++) {
            t.due("plant()", t.plant("" + tree), tree);
            t.due("trees()", t.x.trees(), tree + 1);
            t.due("what it gives", t.x.gives(tree, 0, 0, 0), tree);
        }
        t.refuses(Bench.NOT_NOW, "plant() of a 17th", Bench::fillGrove, Barnacle::plant);
        t.refuses(Bench.NO_PLACE, "TREE 16", Bench::fillGrove, x -> x.size(16));
        t.x.fell(0);
        t.due("what the last one gives", t.x.gives(14, 0, 0, 0), 15);
        t.due("plant() in place of it", t.plant("99"), 15);
        t.due("what it gives", t.x.gives(15, 0, 0, 0), 99);
    }
}
