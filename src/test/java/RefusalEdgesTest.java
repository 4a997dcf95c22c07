import java.util.List;
import java.util.function.Consumer;

/** What each promise refuses, by an exception, by -1 or by 0, at both sides of each limit; and what exceptions leave. */
public final class RefusalEdgesTest {
    private static final String NO_TREE = "Throws `IndexOutOfBoundsException` if there is no such TREE";
    private static final String NO_TREE_OR_PLACE = "Throws `IndexOutOfBoundsException` if there is no such TREE, or PLACE";
    private static final String NOT_ALLOWED = "-1 if it is not allowed.";
    private static final String WRONG_NODE = "Throws `IllegalArgumentException` if code is not 0 to 13, or with 0 value is not "
            + "-99 to 99, with 1 not 0 to 2";
    private static final String WRONG_GENERATIONS = "Throws `IllegalArgumentException` if generations is not 1 to 10";
    private static final String EMPTY_GROVE = "Throws `IllegalStateException` if the GROVE is empty";

    private static final Consumer<Bench> NEW = bench -> { };

    private interface TreeCall {
        void on(Barnacle x, int tree);
    }

    private interface PlaceCall {
        void on(Barnacle x, int tree, int place);
    }

    private RefusalEdgesTest() {
    }

    public static void main(String[] args) {
        Edges edges = new Edges("RefusalEdgesTest", args);
        sketching(edges);
        changing(edges);
        breeding(edges);
        asking(edges);
        whatWouldBe(edges);
        exceptions(edges);
        edges.allRefusalsAreTested();
        edges.end();
    }

    private static void sketching(Edges edges) {
        edges.test("Promise 2", "0, if the SKETCH is a TREE.", RefusalEdgesTest::noneMissing);
        edges.test("Promise 2", WRONG_NODE, RefusalEdgesTest::sketchWrong);
        edges.test("Promise 2", "Throws `IllegalStateException` if the SKETCH is a TREE, or the NODE cannot come to it "
                + "(section 2)", RefusalEdgesTest::cannotCome);
        edges.test("Promise 4", "Throws `IllegalStateException` if the SKETCH is no TREE, or there are 16",
                RefusalEdgesTest::cannotPlant);
        edges.test("Promise 5", NO_TREE, t -> noTree(t, Barnacle::fell));
        edges.test("Promise 6", "Throws `IllegalArgumentException` if an input is not -99 to 99, or due is not -9999 to 9999",
                RefusalEdgesTest::wrongCase);
        edges.test("Promise 6", "Throws `IllegalStateException` if there are 12", RefusalEdgesTest::twelveCases);
        edges.test("Promise 7", "Throws `IllegalArgumentException` if way is not 0 to 2, or weight is not 0 to 99",
                RefusalEdgesTest::wrongWay);
    }

    private static void changing(Edges edges) {
        edges.test("Promise 8", NO_TREE_OR_PLACE, t -> {
            noPlace(t, (x, tree, place) -> x.cross(tree, place, 0, 0));
            noPlace(t, (x, tree, place) -> x.cross(0, 0, tree, place));
        });
        edges.test("Promise 8", NOT_ALLOWED, RefusalEdgesTest::cannotCross);
        edges.test("Promise 9", NO_TREE_OR_PLACE, t -> noPlace(t, Barnacle::hoist));
        edges.test("Promise 9", NOT_ALLOWED, RefusalEdgesTest::cannotHoist);
        edges.test("Promise 10", NO_TREE_OR_PLACE, t -> noPlace(t, (x, tree, place) -> x.recode(tree, place, 0, 0)));
        edges.test("Promise 10", WRONG_NODE, RefusalEdgesTest::recodeWrong);
        edges.test("Promise 10", NOT_ALLOWED, RefusalEdgesTest::cannotRecode);
        edges.test("Promise 11", NO_TREE_OR_PLACE, t -> noPlace(t, (x, tree, place) -> x.wither(tree, place, 0)));
        edges.test("Promise 11", "Throws `IllegalArgumentException` if value is not -99 to 99", RefusalEdgesTest::witherWrong);
        edges.test("Promise 11", NOT_ALLOWED, RefusalEdgesTest::cannotWither);
        edges.test("Promise 12", NO_TREE, t -> noTree(t, Barnacle::simplify));
    }

    private static void breeding(Edges edges) {
        edges.test("Promise 13", "Throws `IllegalArgumentException` if one of them is not 0 to 100, or they are more than 100 "
                + "together", RefusalEdgesTest::wrongRates);
        edges.test("Promise 14", "Throws `IllegalArgumentException` if tournament is not 1 to 5, or elite is not 0 to 4",
                RefusalEdgesTest::wrongChoosing);
        edges.test("Promise 15", "Throws `IllegalArgumentException` if luck is not 0 to 9999", RefusalEdgesTest::wrongLuck);
        edges.test("Promise 16", "Throws `IllegalArgumentException` if number is less than 0", RefusalEdgesTest::wrongTold);
        edges.test("Promise 16", "Throws `IllegalStateException` if 40 wait", RefusalEdgesTest::fortyWait);
        edges.test("Promise 17", WRONG_GENERATIONS, RefusalEdgesTest::breedWrong);
        edges.test("Promise 17", EMPTY_GROVE, RefusalEdgesTest::breedNone);
    }

    private static void asking(Edges edges) {
        edges.test("Promise 21", NO_TREE, t -> noTree(t, Barnacle::size));
        edges.test("Promise 22", NO_TREE, t -> noTree(t, Barnacle::depth));
        edges.test("Promise 23", NO_TREE_OR_PLACE, t -> noPlace(t, Barnacle::codeAt));
        edges.test("Promise 24", "0 if the NODE has none.", RefusalEdgesTest::noValue);
        edges.test("Promise 24", NO_TREE_OR_PLACE, t -> noPlace(t, Barnacle::valueAt));
        edges.test("Promise 25", NO_TREE_OR_PLACE, t -> noPlace(t, Barnacle::sizeAt));
        edges.test("Promise 26", "-1 at the root.", RefusalEdgesTest::noneAbove);
        edges.test("Promise 26", NO_TREE_OR_PLACE, t -> noPlace(t, Barnacle::above));
        edges.test("Promise 27", NO_TREE, t -> noTree(t, (x, tree) -> x.gives(tree, 0, 0, 0)));
        edges.test("Promise 27", "Throws `IllegalArgumentException` if an input is not -99 to 99", RefusalEdgesTest::wrongInputs);
        edges.test("Promise 28", NO_TREE, t -> noTree(t, Barnacle::error));
        edges.test("Promise 29", NO_TREE, t -> noTree(t, Barnacle::merit));
        edges.test("Promise 30", NO_TREE, t -> noTree(t, Barnacle::hits));
        edges.test("Promise 31", "Throws `IndexOutOfBoundsException` if there is no such rank", t -> noTree(t, Barnacle::ranked));
        edges.test("Promise 33", NO_TREE, t -> {
            noTree(t, (x, tree) -> x.alike(tree, 0));
            noTree(t, (x, tree) -> x.alike(0, tree));
        });
        edges.test("Promise 34", "0 without any.", RefusalEdgesTest::noMean);
    }

    private static void whatWouldBe(Edges edges) {
        edges.test("Promise 39", NO_TREE_OR_PLACE, t -> {
            noPlace(t, (x, tree, place) -> x.errorCrossed(tree, place, 0, 0));
            noPlace(t, (x, tree, place) -> x.errorCrossed(0, 0, tree, place));
        });
        edges.test("Promise 39", "-1 if that is not allowed.", RefusalEdgesTest::cannotBeCrossed);
        edges.test("Promise 40", NO_TREE, t -> noTree(t, Barnacle::bestHoist));
        edges.test("Promise 41", WRONG_GENERATIONS, RefusalEdgesTest::errorBredWrong);
        edges.test("Promise 41", EMPTY_GROVE, RefusalEdgesTest::errorBredNone);
    }

    private static void exceptions(Edges edges) {
        edges.test("Exceptions", "A method that throws an exception changes nothing.", RefusalEdgesTest::allRefused);
        edges.test("Exceptions", "If several exceptions apply, the one that is named first is thrown.",
                RefusalEdgesTest::namedFirst);
    }

    // ---- no such TREE, or PLACE

    private static void noTree(Bench t, TreeCall call) {
        for (int tree : new int[] {-1, 0, 1}) {
            t.refuses(Bench.NO_PLACE, "TREE " + tree + " of none", NEW, x -> call.on(x, tree));
        }
        for (int tree : new int[] {-1, 3, 4, 15, 16, Integer.MIN_VALUE, Integer.MAX_VALUE}) {
            t.refuses(Bench.NO_PLACE, "TREE " + tree + " of three", Bench::fill, x -> call.on(x, tree));
        }
        for (int tree : new int[] {0, 1, 2}) {
            t.takes("TREE " + tree + " of three", Bench::fill, x -> call.on(x, tree));
        }
        t.takes("TREE 15 of 16", Bench::fillGrove, x -> call.on(x, 15));
        t.refuses(Bench.NO_PLACE, "TREE 16 of 16", Bench::fillGrove, x -> call.on(x, 16));
        t.takes("TREE 1 of two that are left", RefusalEdgesTest::fillAndFell, x -> call.on(x, 1));
        t.refuses(Bench.NO_PLACE, "TREE 2 of two that are left", RefusalEdgesTest::fillAndFell, x -> call.on(x, 2));
    }

    private static void fillAndFell(Bench t) {
        t.fill();
        t.x.fell(0);
    }

    private static void noPlace(Bench t, PlaceCall call) {
        noTree(t, (x, tree) -> call.on(x, tree, 0));
        int[] sizes = {8, 3, 9};
        for (int tree = 0; tree < sizes.length; tree++) {
            int here = tree;
            for (int place : new int[] {-1, sizes[tree], 39, 40, Integer.MIN_VALUE, Integer.MAX_VALUE}) {
                t.refuses(Bench.NO_PLACE, "PLACE " + place + " of " + sizes[tree], Bench::fill, x -> call.on(x, here, place));
            }
            for (int place : new int[] {0, 1, sizes[tree] - 1}) {
                t.takes("PLACE " + place + " of " + sizes[tree], Bench::fill, x -> call.on(x, here, place));
            }
        }
        t.takes("PLACE 39 of 40", bench -> bench.plant(Bench.sized(40)), x -> call.on(x, 0, 39));
        t.refuses(Bench.NO_PLACE, "PLACE 40 of 40", bench -> bench.plant(Bench.sized(40)), x -> call.on(x, 0, 40));
        t.takes("PLACE 0 of a leaf", bench -> bench.plant("a"), x -> call.on(x, 0, 0));
        t.refuses(Bench.NO_PLACE, "PLACE 1 of a leaf", bench -> bench.plant("a"), x -> call.on(x, 0, 1));
        // a PLACE that was there, till the TREE became smaller
        t.refuses(Bench.NO_PLACE, "PLACE 4 of three", RefusalEdgesTest::fillAndHoist, x -> call.on(x, 0, 4));
        t.takes("PLACE 2 of three", RefusalEdgesTest::fillAndHoist, x -> call.on(x, 0, 2));
    }

    private static void fillAndHoist(Bench t) {
        t.fill();
        t.x.hoist(0, 4);
    }

    // ---- sketching and planting

    private static void noneMissing(Bench t) {
        t.due("sketch() of a CONSTANT", t.fresh().x.sketch(0, 5), 0);
        t.due("sketch() of a SUM", t.fresh().x.sketch(2, 0), 2);
        for (int size : new int[] {3, 39, 40}) {
            String nodes = Bench.sized(size);
            Bench made = t.fresh();
            t.due("sketch() of the last but one", made.sketch(nodes.substring(0, nodes.length() - 2)), 1);
            t.due("sketch() of the last", made.sketch(nodes.substring(nodes.length() - 1)), 0);
        }
    }

    private static void sketchWrong(Bench t) {
        for (int code : new int[] {-1, 14, Integer.MIN_VALUE, Integer.MAX_VALUE}) {
            t.refuses(Bench.BAD, "code " + code, NEW, x -> x.sketch(code, 0));
            t.refuses(Bench.BAD, "code " + code + " behind others", Bench::fill, x -> x.sketch(code, 0));
        }
        for (int code : new int[] {0, 8}) {
            t.takes("code " + code, NEW, x -> x.sketch(code, 0));
        }
        for (int code : new int[] {9, 13}) {
            t.takes("code " + code, Bench::fill, x -> x.sketch(code, 0));
        }
        wrongValues(t, (x, code, value) -> x.sketch(code, value), NEW);
        for (int code = 2; code <= 13; code++) {
            int next = code;
            for (int value : new int[] {100, -100, Integer.MIN_VALUE, Integer.MAX_VALUE}) {
                t.takes("code " + code + " with " + value, code <= 8 ? NEW : Bench::fill, x -> x.sketch(next, value));
            }
        }
    }

    private static void wrongValues(Bench t, PlaceCall call, Consumer<Bench> prepared) {
        for (int value : new int[] {-100, 100, Integer.MIN_VALUE, Integer.MAX_VALUE}) {
            t.refuses(Bench.BAD, "CONSTANT " + value, prepared, x -> call.on(x, 0, value));
        }
        for (int value : new int[] {-99, 99}) {
            t.takes("CONSTANT " + value, prepared, x -> call.on(x, 0, value));
        }
        for (int value : new int[] {-1, 3, Integer.MIN_VALUE, Integer.MAX_VALUE}) {
            t.refuses(Bench.BAD, "INPUT " + value, prepared, x -> call.on(x, 1, value));
        }
        for (int value : new int[] {0, 2}) {
            t.takes("INPUT " + value, prepared, x -> call.on(x, 1, value));
        }
    }

    private static void cannotCome(Bench t) {
        for (int code : new int[] {0, 1, 2, 8, 9, 13}) {
            t.refuses(Bench.NOT_NOW, code + " behind a leaf", bench -> bench.sketch("a"), x -> x.sketch(code, 0));
            t.refuses(Bench.NOT_NOW, code + " behind a TREE", Bench::fillGrove, x -> x.sketch(code, 0));
            t.refuses(Bench.NOT_NOW, code + " behind 40", bench -> bench.sketch(Bench.sized(40)), x -> x.sketch(code, 0));
        }
        for (int code : new int[] {9, 13}) {
            t.refuses(Bench.NOT_NOW, code + " as a NUMBER", NEW, x -> x.sketch(code, 0));
        }
        for (int code : new int[] {0, 8}) {
            t.refuses(Bench.NOT_NOW, code + " as a CONDITION", Bench::fill, x -> x.sketch(code, 0));
        }
        t.refuses(Bench.NOT_NOW, "a SUM of SIZE 41", bench -> bench.sketch("+ " + Bench.sized(37)), x -> x.sketch(2, 0));
        t.takes("a SUM of SIZE 40", bench -> bench.sketch("+ " + Bench.sized(36)), x -> x.sketch(2, 0));
        t.refuses(Bench.NOT_NOW, "a SUM of DEPTH 9", bench -> bench.sketch("+ + + + + + +"), x -> x.sketch(2, 0));
        t.takes("a SUM of DEPTH 8", bench -> bench.sketch("+ + + + + +"), x -> x.sketch(2, 0));
    }

    private static void cannotPlant(Bench t) {
        t.refuses(Bench.NOT_NOW, "plant() of nothing", NEW, Barnacle::plant);
        t.refuses(Bench.NOT_NOW, "plant() of nothing behind a TREE", bench -> bench.plant("a"), Barnacle::plant);
        t.refuses(Bench.NOT_NOW, "plant() with two missing", Bench::fill, Barnacle::plant);
        t.refuses(Bench.NOT_NOW, "plant() with one missing", bench -> bench.sketch("+ a"), Barnacle::plant);
        t.takes("plant() with none missing", bench -> bench.sketch("+ a b"), Barnacle::plant);
        t.takes("plant() of a leaf", bench -> bench.sketch("a"), Barnacle::plant);
        t.refuses(Bench.NOT_NOW, "plant() of a 17th", Bench::fillGrove, Barnacle::plant);
        t.takes("plant() of a 16th", RefusalEdgesTest::fifteen, Barnacle::plant);
        t.refuses(Bench.NOT_NOW, "plant() of nothing as a 17th", bench -> {
            bench.fillGrove();
            bench.x.erase();
        }, Barnacle::plant);
    }

    private static void fifteen(Bench t) {
        t.fillGrove();
        t.x.fell(7);
    }

    private static void wrongCase(Bench t) {
        for (int far : new int[] {-100, 100, Integer.MIN_VALUE, Integer.MAX_VALUE}) {
            t.refuses(Bench.BAD, "an input 0 of " + far, Bench::fill, x -> x.addCase(far, 1, 2, 3));
            t.refuses(Bench.BAD, "an input 1 of " + far, Bench::fill, x -> x.addCase(1, far, 2, 3));
            t.refuses(Bench.BAD, "an input 2 of " + far, Bench::fill, x -> x.addCase(1, 2, far, 3));
        }
        for (int far : new int[] {-10000, 10000, Integer.MIN_VALUE, Integer.MAX_VALUE}) {
            t.refuses(Bench.BAD, far + " due", Bench::fill, x -> x.addCase(1, 2, 3, far));
        }
        t.takes("the least", Bench::fill, x -> x.addCase(-99, -99, -99, -9999));
        t.takes("the most", Bench::fill, x -> x.addCase(99, 99, 99, 9999));
    }

    private static void cases(Bench t, int many) {
        t.plant("+ * a b c");
        for (int number = 0; number < many; number++) {
            t.x.addCase(number, 2, -number, 7 * number);
        }
    }

    private static void twelveCases(Bench t) {
        t.takes("a 12th CASE", bench -> cases(bench, 11), x -> x.addCase(1, 2, 3, 4));
        t.refuses(Bench.NOT_NOW, "a 13th CASE", bench -> cases(bench, 12), x -> x.addCase(1, 2, 3, 4));
    }

    private static void wrongWay(Bench t) {
        for (int way : new int[] {-1, 3, Integer.MIN_VALUE, Integer.MAX_VALUE}) {
            t.refuses(Bench.BAD, "the WAY " + way, Bench::fill, x -> x.setWay(way, 5));
        }
        for (int weight : new int[] {-1, 100, Integer.MIN_VALUE, Integer.MAX_VALUE}) {
            for (int way = 0; way <= 2; way++) {
                int here = way;
                t.refuses(Bench.BAD, "the WAY " + way + " with " + weight, Bench::fill, x -> x.setWay(here, weight));
            }
        }
        for (int way = 0; way <= 2; way++) {
            int here = way;
            t.takes("the WAY " + way + " with 0", Bench::fill, x -> x.setWay(here, 0));
            t.takes("the WAY " + way + " with 99", Bench::fill, x -> x.setWay(here, 99));
        }
    }

    // ---- changes at places that are told

    /** TREES at the limits: 40 NODES; 39; a DEPTH of 8; 6 NODES with a CONDITION; a SUM. */
    private static void limits(Bench t) {
        t.plant("+ + a + a b " + Bench.sized(34));
        t.plant("+ + a + a b " + Bench.sized(33));
        t.plant(Bench.deep(8));
        t.plant("if < a b a b");
        t.plant("+ a b");
        t.x.addCase(1, 2, 3, 50);
    }

    private static void cannotCross(Bench t) {
        t.denies("cross() to 41 NODES", RefusalEdgesTest::limits, x -> x.cross(0, 1, 3, 0));
        t.denies("cross() to a DEPTH of 9", RefusalEdgesTest::limits, x -> x.cross(2, 14, 4, 0));
        t.denies("cross() of a CONDITION with a NUMBER", RefusalEdgesTest::limits, x -> x.cross(3, 1, 4, 0));
        t.denies("cross() of a NUMBER with a CONDITION", RefusalEdgesTest::limits, x -> x.cross(4, 0, 3, 1));
        Bench made = t.fresh();
        limits(made);
        t.due("cross() to 40 NODES", made.x.cross(1, 1, 3, 0), 40);
        t.due("cross() to a DEPTH of 8", made.x.cross(2, 12, 4, 0), 15);
        t.due("cross() of two CONDITIONS", made.x.cross(3, 1, 3, 1), 6);
        t.due("cross() to one NODE", made.x.cross(0, 0, 4, 1), 1);
    }

    private static void cannotHoist(Bench t) {
        t.denies("hoist() at BELOW", Bench::fill, x -> x.hoist(0, 1));
        t.denies("hoist() at NOT", Bench::fill, x -> x.hoist(2, 3));
        t.denies("hoist() at SAME", Bench::fill, x -> x.hoist(2, 4));
        t.denies("hoist() at BOTH", RefusalEdgesTest::bothAndEither, x -> x.hoist(0, 1));
        t.denies("hoist() at EITHER", RefusalEdgesTest::bothAndEither, x -> x.hoist(0, 2));
        t.due("hoist() at the root", t.fresh("+ a b").x.hoist(0, 0), 3);
        t.due("hoist() at a CHOICE", t.fresh("* b if not = a b 2 c").x.hoist(0, 2), 7);
        t.due("hoist() ahead of a CONDITION", t.fresh("* b if not = a b 2 c").x.hoist(0, 1), 1);
    }

    private static void bothAndEither(Bench t) {
        t.plant("if and or < a 1 = b 2 < b c a b");
    }

    private static void recodeWrong(Bench t) {
        for (int code : new int[] {-1, 14, Integer.MIN_VALUE, Integer.MAX_VALUE}) {
            for (int place : new int[] {0, 1, 2}) {
                t.refuses(Bench.BAD, "code " + code, Bench::fill, x -> x.recode(0, place, code, 0));
            }
        }
        // at a leaf it would be allowed, at the root it would not
        wrongValues(t, (x, code, value) -> x.recode(1, 1, code, value), Bench::fill);
        wrongValues(t, (x, code, value) -> x.recode(1, 0, code, value), Bench::fill);
        for (int code = 2; code <= 13; code++) {
            int next = code;
            t.takes("code " + code + " with a value that is not looked at", Bench::fill, x -> x.recode(1, 0, next, 100));
            t.takes("code " + code + " with the least value", Bench::fill, x -> x.recode(1, 0, next, Integer.MIN_VALUE));
        }
    }

    private static void cannotRecode(Bench t) {
        int[][] wrong = {{0, 0, 1}, {0, 0, 2}, {0, 0, 13}, {0, 1, 8}, {0, 1, 11}, {0, 1, 13}, {0, 1, 2}, {0, 2, 2}, {0, 2, 13},
            {0, 4, 1}, {0, 4, 8}, {0, 4, 9}, {0, 4, 10}, {2, 3, 9}, {2, 3, 12}, {2, 3, 0}};
        for (int[] call : wrong) {
            String text = "recode(" + call[0] + ", " + call[1] + ", " + call[2] + ", 0)";
            t.denies(text, Bench::fill, x -> x.recode(call[0], call[1], call[2], 0));
        }
        int[][] fine = {{0, 0, 8, 8}, {0, 1, 9, 9}, {0, 1, 10, 9}, {0, 2, 0, 1}, {0, 3, 1, 0}, {0, 4, 2, 2}, {0, 4, 7, 2},
            {2, 3, 13, 13}, {2, 4, 9, 10}, {2, 0, 3, 4}};
        for (int[] call : fine) {
            Bench made = t.fresh();
            made.fill();
            t.due("recode()", made.x.recode(call[0], call[1], call[2], 0), call[3]);
        }
    }

    private static void witherWrong(Bench t) {
        for (int value : new int[] {-100, 100, Integer.MIN_VALUE, Integer.MAX_VALUE}) {
            t.refuses(Bench.BAD, "the value " + value, Bench::fill, x -> x.wither(0, 0, value));
            t.refuses(Bench.BAD, "the value " + value + " at a leaf", Bench::fill, x -> x.wither(0, 7, value));
            t.refuses(Bench.BAD, "the value " + value + " at a CONDITION", Bench::fill, x -> x.wither(0, 1, value));
        }
        for (int value : new int[] {-99, 99}) {
            t.takes("the value " + value, Bench::fill, x -> x.wither(0, 0, value));
            t.takes("the value " + value + " at a CONDITION", Bench::fill, x -> x.wither(0, 1, value));
        }
    }

    private static void cannotWither(Bench t) {
        t.denies("wither() at BELOW", Bench::fill, x -> x.wither(0, 1, 5));
        t.denies("wither() at NOT", Bench::fill, x -> x.wither(2, 3, 5));
        t.denies("wither() at SAME", Bench::fill, x -> x.wither(2, 4, 5));
        t.denies("wither() at BOTH", RefusalEdgesTest::bothAndEither, x -> x.wither(0, 1, 5));
        t.denies("wither() at EITHER", RefusalEdgesTest::bothAndEither, x -> x.wither(0, 2, 5));
        t.due("wither() at a CHOICE", t.fresh("* b if not = a b 2 c").x.wither(0, 2, 5), 3);
        t.due("wither() at a leaf", t.fresh("+ a b").x.wither(0, 2, 5), 3);
        t.due("wither() at the root", t.fresh("+ a b").x.wither(0, 0, 5), 1);
    }

    // ---- breeding

    private static void wrongRates(Bench t) {
        for (int wrong : new int[] {-1, 101, Integer.MIN_VALUE, Integer.MAX_VALUE}) {
            t.refuses(Bench.BAD, "CROSSING " + wrong, Bench::fill, x -> x.setRates(wrong, 0, 0));
            t.refuses(Bench.BAD, "CHANGING " + wrong, Bench::fill, x -> x.setRates(0, wrong, 0));
            t.refuses(Bench.BAD, "HOISTING " + wrong, Bench::fill, x -> x.setRates(0, 0, wrong));
        }
        // the sum is fine where one is not
        t.refuses(Bench.BAD, "CROSSING -1 of 99", Bench::fill, x -> x.setRates(-1, 50, 50));
        t.refuses(Bench.BAD, "CHANGING -1 of 99", Bench::fill, x -> x.setRates(50, -1, 50));
        t.refuses(Bench.BAD, "HOISTING -1 of 99", Bench::fill, x -> x.setRates(50, 50, -1));
        int[][] over = {{34, 33, 34}, {100, 1, 0}, {100, 0, 1}, {1, 100, 0}, {0, 100, 1}, {1, 0, 100}, {0, 1, 100},
            {100, 100, 100}, {Integer.MAX_VALUE, Integer.MAX_VALUE, 2}};
        for (int[] rates : over) {
            t.refuses(Bench.BAD, "more together", Bench::fill, x -> x.setRates(rates[0], rates[1], rates[2]));
        }
        int[][] fine = {{0, 0, 0}, {100, 0, 0}, {0, 100, 0}, {0, 0, 100}, {33, 33, 34}, {33, 33, 33}};
        for (int[] rates : fine) {
            t.takes("up to 100 together", Bench::fill, x -> x.setRates(rates[0], rates[1], rates[2]));
        }
    }

    private static void wrongChoosing(Bench t) {
        for (int wrong : new int[] {0, 6, -1, Integer.MIN_VALUE, Integer.MAX_VALUE}) {
            t.refuses(Bench.BAD, "a TOURNAMENT of " + wrong, Bench::fill, x -> x.setChoosing(wrong, 0));
        }
        for (int wrong : new int[] {-1, 5, Integer.MIN_VALUE, Integer.MAX_VALUE}) {
            t.refuses(Bench.BAD, "an ELITE of " + wrong, Bench::fill, x -> x.setChoosing(1, wrong));
        }
        for (int tournament : new int[] {1, 5}) {
            for (int elite : new int[] {0, 4}) {
                t.takes("setChoosing()", Bench::fill, x -> x.setChoosing(tournament, elite));
                // an ELITE that is greater than the GROVE is fine
                t.takes("setChoosing() without TREES", NEW, x -> x.setChoosing(tournament, elite));
            }
        }
    }

    private static void wrongLuck(Bench t) {
        for (int wrong : new int[] {-1, 10000, Integer.MIN_VALUE, Integer.MAX_VALUE}) {
            t.refuses(Bench.BAD, "a LUCK of " + wrong, Bench::fill, x -> x.setLuck(wrong));
        }
        for (int luck : new int[] {0, 9999}) {
            t.takes("a LUCK of " + luck, Bench::fill, x -> x.setLuck(luck));
        }
    }

    private static void wrongTold(Bench t) {
        for (int wrong : new int[] {-1, -2, Integer.MIN_VALUE}) {
            t.refuses(Bench.BAD, wrong + " TOLD", Bench::fill, x -> x.tell(wrong));
        }
        for (int number : new int[] {0, 1, Integer.MAX_VALUE}) {
            t.takes(number + " TOLD", Bench::fill, x -> x.tell(number));
        }
    }

    private static void told(Bench t, int many) {
        t.plant("+ a 1");
        t.plant("* b 2");
        for (int number = 0; number < many; number++) {
            t.x.tell(number * 17);
        }
    }

    private static void fortyWait(Bench t) {
        t.takes("a 40th", bench -> told(bench, 39), x -> x.tell(1));
        t.refuses(Bench.NOT_NOW, "a 41st", bench -> told(bench, 40), x -> x.tell(1));
        t.refuses(Bench.NOT_NOW, "a 41st of 0", bench -> told(bench, 40), x -> x.tell(0));
        t.takes("one more when some were drawn", bench -> {
            told(bench, 40);
            bench.x.breed(1);
        }, x -> x.tell(1));
    }

    private static void breedWrong(Bench t) {
        for (int wrong : new int[] {0, 11, -1, Integer.MIN_VALUE, Integer.MAX_VALUE}) {
            t.refuses(Bench.BAD, "breed(" + wrong + ")", Bench::fill, x -> x.breed(wrong));
        }
        for (int generations : new int[] {1, 10}) {
            Bench made = t.fresh("a", "b");
            t.due("breed()", made.x.breed(generations), 0);
            t.due("generations()", made.x.generations(), generations);
        }
    }

    private static void breedNone(Bench t) {
        t.refuses(Bench.NOT_NOW, "breed(1) of none", NEW, x -> x.breed(1));
        t.refuses(Bench.NOT_NOW, "breed(10) of what is only sketched", bench -> bench.sketch("a"), x -> x.breed(10));
        t.refuses(Bench.NOT_NOW, "breed(1) of none that is left", RefusalEdgesTest::onlyFelled, x -> x.breed(1));
        t.takes("breed(1) of one TREE", bench -> bench.plant("a"), x -> x.breed(1));
    }

    private static void onlyFelled(Bench t) {
        t.plant("a");
        t.x.addCase(1, 2, 3, 4);
        t.x.fell(0);
    }

    // ---- asking

    private static void noValue(Bench t) {
        Bench made = t.fresh("if and < a 1 or = b 2 not < 3 c max - + 4 * a b 5 / min 6 -7 c 0");
        for (int place = 0; place < made.x.size(0); place++) {
            if (made.x.codeAt(0, place) > 1) {
                t.due("valueAt(0, " + place + ")", made.x.valueAt(0, place), 0);
            }
        }
        t.due("valueAt() of a CONSTANT", made.x.valueAt(0, 4), 1);
        t.due("valueAt() of an INPUT", made.x.valueAt(0, 7), 1);
        Bench valued = t.fresh();
        valued.x.sketch(2, 99);
        valued.sketch("5 c");
        valued.x.plant();
        t.due("valueAt() of a SUM that was sketched with 99", valued.x.valueAt(0, 0), 0);
        t.due("valueAt() of 5", valued.x.valueAt(0, 1), 5);
        t.due("valueAt() of the INPUT 2", valued.x.valueAt(0, 2), 2);
    }

    private static void noneAbove(Bench t) {
        for (String nodes : new String[] {"a", "+ a b", "if < a 1 + b 2 c", Bench.sized(40), Bench.deep(8)}) {
            Bench made = t.fresh(nodes);
            t.due("above() of the root of " + nodes, made.x.above(0, 0), -1);
            if (made.x.size(0) > 1) {
                t.due("above() of the first one beneath it", made.x.above(0, 1), 0);
            }
        }
    }

    private static void wrongInputs(Bench t) {
        for (int far : new int[] {-100, 100, Integer.MIN_VALUE, Integer.MAX_VALUE}) {
            t.refuses(Bench.BAD, "an input 0 of " + far, Bench::fill, x -> x.gives(0, far, 1, 2));
            t.refuses(Bench.BAD, "an input 1 of " + far, Bench::fill, x -> x.gives(0, 1, far, 2));
            t.refuses(Bench.BAD, "an input 2 of " + far, Bench::fill, x -> x.gives(0, 1, 2, far));
        }
        for (int edge : new int[] {-99, 99}) {
            t.takes("inputs of " + edge, Bench::fill, x -> x.gives(0, edge, edge, edge));
        }
    }

    private static void noMean(Bench t) {
        t.due("meanSize() of none", t.x.meanSize(), 0.0);
        t.sketch("+ a b");
        t.due("meanSize() of what is only sketched", t.x.meanSize(), 0.0);
        t.x.plant();
        t.due("meanSize() of one", t.x.meanSize(), 3.0);
        t.x.fell(0);
        t.due("meanSize() of none that is left", t.x.meanSize(), 0.0);
    }

    // ---- what would be

    private static void cannotBeCrossed(Bench t) {
        t.denies("errorCrossed() to 41 NODES", RefusalEdgesTest::limits, x -> x.errorCrossed(0, 1, 3, 0));
        t.denies("errorCrossed() to a DEPTH of 9", RefusalEdgesTest::limits, x -> x.errorCrossed(2, 14, 4, 0));
        t.denies("errorCrossed() of a CONDITION with a NUMBER", RefusalEdgesTest::limits, x -> x.errorCrossed(3, 1, 4, 0));
        t.denies("errorCrossed() of a NUMBER with a CONDITION", RefusalEdgesTest::limits, x -> x.errorCrossed(4, 0, 3, 1));
        Bench made = t.fresh();
        limits(made);
        int[][] fine = {{1, 1, 3, 0}, {2, 12, 4, 0}, {3, 1, 3, 1}, {0, 0, 4, 1}};
        for (int[] call : fine) {
            int would = made.x.errorCrossed(call[0], call[1], call[2], call[3]);
            made.x.cross(call[0], call[1], call[2], call[3]);
            t.due("errorCrossed()", would, made.x.error(call[0]));
        }
    }

    private static void errorBredWrong(Bench t) {
        for (int wrong : new int[] {0, 11, -1, Integer.MIN_VALUE, Integer.MAX_VALUE}) {
            t.refuses(Bench.BAD, "errorBred(" + wrong + ")", Bench::fill, x -> x.errorBred(wrong));
        }
        for (int generations : new int[] {1, 10}) {
            t.takes("errorBred(" + generations + ")", Bench::fill, x -> x.errorBred(generations));
        }
    }

    private static void errorBredNone(Bench t) {
        t.refuses(Bench.NOT_NOW, "errorBred(1) of none", NEW, x -> x.errorBred(1));
        t.refuses(Bench.NOT_NOW, "errorBred(10) of what is only sketched", bench -> bench.sketch("a"), x -> x.errorBred(10));
        t.refuses(Bench.NOT_NOW, "errorBred(1) of none that is left", RefusalEdgesTest::onlyFelled, x -> x.errorBred(1));
        t.takes("errorBred(1) of one TREE", bench -> bench.plant("a"), x -> x.errorBred(1));
    }

    // ---- exceptions

    private static void full(Bench t) {
        t.fillGrove();
        for (int number = 2; number < 12; number++) {
            t.x.addCase(number, -number, 0, 9 * number);
        }
        for (int number = 3; number < 40; number++) {
            t.x.tell(number * 13);
        }
    }

    /** All that throw, one behind the other, on a bench that is full: what comes then is as if there were none. */
    private static void allRefused(Bench t) {
        List<Consumer<Barnacle>> calls = List.of(
                x -> x.sketch(14, 0), x -> x.sketch(0, 100), x -> x.sketch(1, 3), x -> x.sketch(0, 1), Barnacle::plant,
                x -> x.fell(16), x -> x.fell(-1), x -> x.addCase(1, 2, 100, 4), x -> x.addCase(1, 2, 3, 10000),
                x -> x.addCase(1, 2, 3, 4), x -> x.setWay(3, 5), x -> x.setWay(2, 100), x -> x.cross(0, 0, 16, 0),
                x -> x.cross(0, 0, 1, 3), x -> x.cross(16, 0, 1, 0), x -> x.cross(0, 8, 1, 0), x -> x.hoist(16, 0),
                x -> x.hoist(0, 8), x -> x.recode(16, 0, 2, 0), x -> x.recode(0, 8, 2, 0), x -> x.recode(0, 0, 14, 0),
                x -> x.recode(0, 2, 0, 100), x -> x.recode(0, 2, 1, -1), x -> x.wither(16, 0, 5), x -> x.wither(0, 8, 5),
                x -> x.wither(0, 0, 100), x -> x.simplify(16), x -> x.setRates(10, 10, 101), x -> x.setRates(10, 90, 1),
                x -> x.setChoosing(1, 5), x -> x.setChoosing(6, 0), x -> x.setLuck(10000), x -> x.tell(-1), x -> x.tell(1),
                x -> x.breed(0), x -> x.breed(11), x -> x.size(16), x -> x.depth(16), x -> x.codeAt(16, 0),
                x -> x.valueAt(0, 8), x -> x.sizeAt(0, 8), x -> x.above(0, -1), x -> x.gives(16, 0, 0, 0),
                x -> x.gives(0, 100, 0, 0), x -> x.error(16), x -> x.merit(16), x -> x.hits(16), x -> x.ranked(16),
                x -> x.alike(0, 16), x -> x.errorCrossed(0, 0, 0, 8), x -> x.bestHoist(16), x -> x.errorBred(0));
        t.refuses(Bench.BAD, "the last of them", RefusalEdgesTest::full, x -> {
            for (Consumer<Barnacle> call : calls) {
                t.due("whether it throws", throwsSome(() -> call.accept(x)), true);
            }
            x.errorBred(11);
        });
    }

    private static boolean throwsSome(Runnable call) {
        try {
            call.run();
            return false;
        } catch (RuntimeException e) {
            return true;
        }
    }

    private static void namedFirst(Bench t) {
        t.refuses(Bench.BAD, "a wrong code behind a TREE", RefusalEdgesTest::full, x -> x.sketch(14, 0));
        t.refuses(Bench.BAD, "a wrong CONSTANT behind a TREE", RefusalEdgesTest::full, x -> x.sketch(0, 100));
        t.refuses(Bench.BAD, "a wrong INPUT of a wrong type", bench -> bench.sketch("if"), x -> x.sketch(1, 3));
        t.refuses(Bench.BAD, "a wrong input of a 13th CASE", RefusalEdgesTest::full, x -> x.addCase(100, 0, 0, 0));
        t.refuses(Bench.BAD, "a wrong due of a 13th CASE", RefusalEdgesTest::full, x -> x.addCase(0, 0, 0, 10000));
        t.refuses(Bench.NO_PLACE, "a wrong code of no TREE", Bench::fill, x -> x.recode(3, 0, 14, 0));
        t.refuses(Bench.NO_PLACE, "a wrong code of no PLACE", Bench::fill, x -> x.recode(0, 8, -1, 0));
        t.refuses(Bench.NO_PLACE, "a wrong CONSTANT of no PLACE", Bench::fill, x -> x.recode(0, -1, 0, 100));
        t.refuses(Bench.NO_PLACE, "a wrong INPUT of no TREE", NEW, x -> x.recode(0, 0, 1, 3));
        t.refuses(Bench.NO_PLACE, "a wrong value of no TREE", Bench::fill, x -> x.wither(-1, 0, 100));
        t.refuses(Bench.NO_PLACE, "a wrong value of no PLACE", Bench::fill, x -> x.wither(0, 8, -100));
        t.refuses(Bench.NO_PLACE, "a wrong input of no TREE", Bench::fill, x -> x.gives(3, 100, 0, 0));
        t.refuses(Bench.NO_PLACE, "a wrong input of no TREE at all", NEW, x -> x.gives(0, 0, 0, -100));
        t.refuses(Bench.BAD, "a wrong number where 40 wait", RefusalEdgesTest::full, x -> x.tell(-1));
        t.refuses(Bench.BAD, "too few generations of none", NEW, x -> x.breed(0));
        t.refuses(Bench.BAD, "too many generations of none", NEW, x -> x.breed(11));
        t.refuses(Bench.BAD, "too few generations of none, asked", NEW, x -> x.errorBred(0));
        t.refuses(Bench.BAD, "too many generations of none, asked", NEW, x -> x.errorBred(11));
    }
}
