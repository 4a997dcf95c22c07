import java.math.BigInteger;
import java.util.ArrayList;
import java.util.List;

/** What each promise answers where its words name a boundary case: none, one, the most, the same, the first, the last. */
public final class AnswerEdgesTest {
    private AnswerEdgesTest() {
    }

    public static void main(String[] args) {
        Edges edges = new Edges("AnswerEdgesTest", args);
        edges.test("What it is", "An object is used for at most 512 calls after it has been made", AnswerEdgesTest::lastCall);
        making(edges);
        counting(edges);
        breeding(edges);
        ofTrees(edges);
        ofTheGrove(edges);
        whatWouldBe(edges);
        edges.end();
    }

    private static void making(Edges edges) {
        edges.test("Promise 1", "Creates a bench with an empty SKETCH, an empty GROVE and no CASES.", AnswerEdgesTest::empty);
        edges.test("Promise 2", "Returns how many are missing then, each that is missing taken as one NODE",
                AnswerEdgesTest::missing);
        edges.test("Promise 2", "(of codes above 1 it is not looked at)", AnswerEdgesTest::valuesNotLookedAt);
        edges.test("Promise 3", "Returns how many NODES the SKETCH had; it has none then.", AnswerEdgesTest::erased);
        edges.test("Promise 4", "Adds the TREE of the SKETCH to the GROVE; the SKETCH has no NODES then.",
                AnswerEdgesTest::planted);
        edges.test("Promise 5", "those with greater numbers have one less then.", AnswerEdgesTest::oneLess);
        edges.test("Promise 5", "Returns its SIZE.", AnswerEdgesTest::felled);
        edges.test("Promise 7", "Returns the WAY before.", AnswerEdgesTest::wayBefore);
        edges.test("Promise 8", "the other TREE (or the same one)", AnswerEdgesTest::crossedWithItself);
        edges.test("Promise 12", "Returns how many NODES less it has.", AnswerEdgesTest::less);
    }

    private static void counting(Edges edges) {
        edges.test("Promise 18", "Returns how many NODES the SKETCH has.", AnswerEdgesTest::sketched);
        edges.test("Promise 19", "Returns how many TREES the GROVE has.", AnswerEdgesTest::trees);
        edges.test("Promise 20", "Returns how many CASES there are.", AnswerEdgesTest::cases);
        edges.test("Promise 37", "Returns LUCK.", AnswerEdgesTest::luck);
        edges.test("Promise 38", "Returns how many TOLD numbers wait.", AnswerEdgesTest::waiting);
    }

    private static void breeding(Edges edges) {
        edges.test("Promise 17", "Breeds generations.", AnswerEdgesTest::oneByOne);
        edges.test("Promise 17", "Returns the ERROR of the best TREE then.", AnswerEdgesTest::errorOfBest);
        edges.test("Promise 35", "Returns how many generations were bred.", AnswerEdgesTest::generations);
        edges.test("Promise 36", "Returns how many MISSES there were.", AnswerEdgesTest::misses);
    }

    private static void ofTrees(Edges edges) {
        edges.test("Promise 21", "Returns its SIZE.", AnswerEdgesTest::sizes);
        edges.test("Promise 22", "Returns its DEPTH.", AnswerEdgesTest::depths);
        edges.test("Promise 23", "Returns the code there.", AnswerEdgesTest::codes);
        edges.test("Promise 25", "Returns how many NODES there are there and beneath it.", AnswerEdgesTest::spans);
        edges.test("Promise 26", "Returns the PLACE of the NODE above it", AnswerEdgesTest::above);
        edges.test("Promise 28", "Returns its ERROR.", AnswerEdgesTest::error);
        edges.test("Promise 29", "Returns its MERIT.", AnswerEdgesTest::merit);
        edges.test("Promise 30", "Returns for how many CASES it gives what is due.", AnswerEdgesTest::hits);
    }

    private static void ofTheGrove(Edges edges) {
        edges.test("Promise 31", "Returns the TREE with this rank, the best one first.", AnswerEdgesTest::ranks);
        edges.test("Promise 32", "Returns how many different TREES there are in the GROVE.", AnswerEdgesTest::different);
        edges.test("Promise 33", "are the same in both, with their values, up to the first that differs.", AnswerEdgesTest::alike);
        edges.test("Promise 33", "another one, or the same", AnswerEdgesTest::alikeItself);
        edges.test("Promise 34", "the mean of the SIZES of all TREES, not cut", AnswerEdgesTest::meanSize);
    }

    private static void whatWouldBe(Edges edges) {
        edges.test("Promise 39", "Returns the ERROR that the TREE would have, if it was CROSSED so", AnswerEdgesTest::errorCrossed);
        edges.test("Promise 40", "Returns the PLACE, a NUMBER, at which it would have the least ERROR", AnswerEdgesTest::bestHoist);
        edges.test("Promise 40", "of several the one by which its SIZE is least", AnswerEdgesTest::leastSize);
        edges.test("Promise 40", "of these the smallest.", AnswerEdgesTest::smallestPlace);
        edges.test("Promise 41", "Returns what breed() would tell, with the numbers that wait and LUCK as they are.",
                AnswerEdgesTest::errorBred);
        edges.test("Promise 42", "A number d starts with 58042", AnswerEdgesTest::digestOfNone);
        edges.test("Promise 42", "for each of the following numbers x, d becomes d * 31 + x", AnswerEdgesTest::digestOfAll);
        edges.test("Promise 42", "which wraps around as a 64-bit integer", AnswerEdgesTest::digestWraps);
    }

    // ---- an object, and making TREES

    private static void lastCall(Bench t) {
        t.plant("if < a b + c 1 * a 2");
        t.plant("max a - b 3");
        t.x.addCase(1, 2, 3, 4);
        int calls = 10 + 1 + 5 + 1 + 1;
        for (; calls < 509; calls++) {
            t.x.breed(10);
        }
        t.due("the call 510", t.x.generations(), 4910);
        t.due("the call 511", t.x.tell(5), 1);
        t.due("the call 512", t.x.waiting(), 1);
    }

    private static void empty(Bench t) {
        t.due("sketched()", t.x.sketched(), 0);
        t.due("trees()", t.x.trees(), 0);
        t.due("cases()", t.x.cases(), 0);
        t.due("generations()", t.x.generations(), 0);
        t.due("misses()", t.x.misses(), 0);
        t.due("luck()", t.x.luck(), 0);
        t.due("waiting()", t.x.waiting(), 0);
        t.due("different()", t.x.different(), 0);
        // one object knows nothing of another one
        Bench other = t.fresh();
        other.fill();
        t.due("trees() beside another object", t.x.trees(), 0);
        t.due("cases() beside another object", t.x.cases(), 0);
        t.due("luck() beside another object", t.x.luck(), 0);
    }

    private static void missing(Bench t) {
        // a CONDITION that is missing counts as one here, though it needs three
        String[] nodes = {"if", "and", "not", "<", "+", "a", "1", "b", "=", "1", "2", "+", "a", "if", "<", "a", "b", "1", "2", "7"};
        int[] missing = {3, 4, 4, 5, 6, 5, 4, 3, 4, 3, 2, 3, 2, 4, 5, 4, 3, 2, 1, 0};
        for (int step = 0; step < nodes.length; step++) {
            t.due("sketch() of " + nodes[step], t.sketch(nodes[step]), missing[step]);
        }
        t.due("missing behind seven SUMS", t.fresh().sketch("+ + + + + + +"), 8);
    }

    private static void valuesNotLookedAt(Bench t) {
        for (int code = 2; code <= 13; code++) {
            for (int value : new int[] {-100, 99, 100, Integer.MIN_VALUE, Integer.MAX_VALUE}) {
                Bench made = t.fresh();
                int place = 0;
                if (code > 8) {
                    made.sketch("if");
                    place = 1;
                }
                t.due("sketch(" + code + ", " + value + ") answers more than 0", made.x.sketch(code, value) > 0, true);
                made.finishSketch();
                t.due("codeAt()", made.x.codeAt(0, place), code);
                t.due("valueAt()", made.x.valueAt(0, place), 0);
            }
        }
    }

    private static void erased(Bench t) {
        String[] sketches = {"a", "+", "+ a", "+ a b", "if < a 1", Bench.sized(39), Bench.sized(40)};
        t.due("erase() of none", t.x.erase(), 0);
        for (String nodes : sketches) {
            Bench made = t.fresh();
            made.sketch(nodes);
            t.due("erase() of " + nodes, made.x.erase(), nodes.split(" ").length);
            t.due("sketched()", made.x.sketched(), 0);
            t.due("erase() again", made.x.erase(), 0);
            t.due("whether a CONDITION comes then", made.comes(9), false);
            t.due("sketch() of a root", made.x.sketch(8, 0), 3);
            t.due("finishing it", made.finishSketch(), 0);
            t.due("what is planted then", made.read(0), "if < 0 0 0 0");
        }
        // what was there is no matter for what can come: 40 NODES, and a DEPTH of 8
        Bench again = t.fresh();
        again.sketch("+ + + + + + + a");
        again.x.erase();
        t.due("missing of 40 NODES", again.sketch(Bench.sized(40)), 0);
        again.x.erase();
        t.due("missing of a DEPTH of 8", again.sketch(Bench.deep(8)), 0);
    }

    private static void planted(Bench t) {
        for (String nodes : new String[] {"a", "-99", "+ a b", Bench.deep(8), Bench.sized(39), Bench.sized(40)}) {
            Bench made = t.fresh("7");
            t.due("plant()", made.plant(nodes), 1);
            t.due("what is planted", made.read(1), nodes);
            t.due("what was there", made.read(0), "7");
            t.due("sketched()", made.x.sketched(), 0);
            t.due("trees()", made.x.trees(), 2);
        }
        // the SKETCH is empty again, also for what can come
        Bench made = t.fresh();
        made.plant(Bench.sized(40));
        t.due("missing of 40 NODES more", made.sketch(Bench.sized(40)), 0);
        t.due("plant()", made.x.plant(), 1);
    }

    private static void oneLess(Bench t) {
        for (int felled : new int[] {0, 1, 7, 14, 15}) {
            Bench made = t.fresh();
            for (int tree = 0; tree < 16; tree++) {
                made.plant("" + tree);
            }
            made.x.fell(felled);
            t.due("trees()", made.x.trees(), 15);
            for (int tree = 0; tree < 15; tree++) {
                t.due("TREE " + tree + " without " + felled, made.x.valueAt(tree, 0), tree < felled ? tree : tree + 1);
            }
        }
        Bench one = t.fresh("a");
        one.x.fell(0);
        t.due("trees() without the only one", one.x.trees(), 0);
        t.due("plant() then", one.plant("b"), 0);
        t.due("the new one", one.read(0), "b");
    }

    private static void felled(Bench t) {
        Bench made = t.fresh("a", Bench.sized(40), "+ a b");
        t.due("fell(1)", made.x.fell(1), 40);
        t.due("fell(1)", made.x.fell(1), 3);
        t.due("fell(0)", made.x.fell(0), 1);
    }

    private static void wayBefore(Bench t) {
        t.due("setWay(2, 99)", t.x.setWay(2, 99), 0);
        t.due("setWay(2, 0)", t.x.setWay(2, 0), 2);
        t.due("setWay(1, 0)", t.x.setWay(1, 0), 2);
        t.due("setWay(0, 99)", t.x.setWay(0, 99), 1);
        t.due("setWay(0, 0)", t.x.setWay(0, 0), 0);
    }

    private static void crossedWithItself(Bench t) {
        String[] dues = {"if < a 1 + b 2 c", "if < a 1 if < a 1 + b 2 c c", "+ b 2", "if < a 1 c c", "if < 1 1 + b 2 c"};
        int[][] calls = {{4, 4}, {4, 0}, {0, 4}, {4, 7}, {2, 3}};
        for (int index = 0; index < calls.length; index++) {
            Bench made = t.fresh("if < a 1 + b 2 c");
            int size = made.x.cross(0, calls[index][0], 0, calls[index][1]);
            t.due("cross()", size, dues[index].split(" ").length);
            t.due("the TREE with itself", made.read(0), dues[index]);
        }
    }

    private static void less(Bench t) {
        String[] nodes = {"a", "7", "+ a b", "+ a 0", "+ 1 2", Bench.sized(40), Bench.sized(39).replace('a', '1')};
        int[] less = {0, 0, 0, 2, 2, 0, 38};
        for (int index = 0; index < nodes.length; index++) {
            t.due("simplify() of " + nodes[index], t.fresh(nodes[index]).x.simplify(0), less[index]);
        }
        t.due("simplify() of 40", t.fresh(Bench.sized(40).replace('a', '1').replace('b', '2')).x.simplify(0), 39);
    }

    // ---- counting

    private static void sketched(Bench t) {
        t.due("sketched()", t.x.sketched(), 0);
        String[] nodes = Bench.sized(40).split(" ");
        for (int step = 0; step < nodes.length; step++) {
            t.sketch(nodes[step]);
            t.due("sketched()", t.x.sketched(), step + 1);
        }
        t.due("whether a 41st comes", t.comes(0), false);
        t.due("sketched() behind it", t.x.sketched(), 40);
        t.x.plant();
        t.due("sketched() behind plant()", t.x.sketched(), 0);
    }

    private static void trees(Bench t) {
        t.due("trees()", t.x.trees(), 0);
        t.sketch("a");
        t.due("trees() with a TREE that is only sketched", t.x.trees(), 0);
        t.x.plant();
        for (int trees = 1; trees < 16; trees++) {
            t.due("trees()", t.x.trees(), trees);
            t.plant("b");
        }
        t.due("trees()", t.x.trees(), 16);
        for (int trees = 15; trees >= 0; trees--) {
            t.x.fell(trees / 2);
            t.due("trees()", t.x.trees(), trees);
        }
    }

    private static void cases(Bench t) {
        for (int cases = 0; cases < 12; cases++) {
            t.due("cases()", t.x.cases(), cases);
            t.x.addCase(cases, 0, 0, 0);
        }
        t.due("cases()", t.x.cases(), 12);
    }

    private static void luck(Bench t) {
        t.due("luck()", t.x.luck(), 0);
        for (int luck : new int[] {9999, 0, 1, 9998}) {
            t.x.setLuck(luck);
            t.due("luck()", t.x.luck(), luck);
        }
    }

    private static void waiting(Bench t) {
        for (int waiting = 0; waiting < 40; waiting++) {
            t.due("waiting()", t.x.waiting(), waiting);
            t.x.tell(waiting);
        }
        t.due("waiting()", t.x.waiting(), 40);
        t.plant("a");
        t.x.setRates(0, 0, 0);
        t.x.setChoosing(1, 0);
        // two draws a generation
        t.x.breed(10);
        t.due("waiting() behind 20 draws", t.x.waiting(), 20);
        t.x.breed(10);
        t.due("waiting() behind 40", t.x.waiting(), 0);
        t.due("luck() behind 40", t.x.luck(), 0);
        t.x.breed(1);
        t.due("waiting() behind 42", t.x.waiting(), 0);
    }

    // ---- breeding

    /** Several generations at once are the same as one by one. */
    private static void oneByOne(Bench t) {
        for (int generations : new int[] {1, 2, 10}) {
            Bench once = t.fresh();
            once.fillGrove();
            Bench steps = t.fresh();
            steps.fillGrove();
            int error = 0;
            for (int generation = 0; generation < generations; generation++) {
                error = steps.x.breed(1);
            }
            t.due("breed(" + generations + ")", once.x.breed(generations), error);
            t.due("digest() behind it", once.x.digest(), steps.x.digest());
        }
    }

    private static void errorOfBest(Bench t) {
        t.due("breed() without CASES", t.fresh("a").x.breed(1), 0);
        Bench one = t.fresh("4");
        one.x.addCase(0, 0, 0, 9);
        t.due("breed() of one", one.x.breed(10), 5);
        // the best one by the MERIT, though another one has less of an ERROR
        Bench merit = t.fresh("+ 4 5", "7");
        merit.x.addCase(0, 0, 0, 9);
        merit.x.setRates(0, 0, 0);
        merit.x.setChoosing(5, 4);
        t.due("breed() by the ERROR", merit.x.breed(1), 0);
        merit.x.setWay(1, 1);
        t.due("breed() by the same MERIT", merit.x.breed(1), 0);
        merit.x.setWay(1, 2);
        t.due("breed() by the lesser MERIT", merit.x.breed(1), 2);
        // it need not be the first one, nor of the ELITE
        Bench second = t.fresh("9", "3");
        second.x.addCase(0, 0, 0, 3);
        second.x.setRates(0, 0, 0);
        second.x.setChoosing(1, 0);
        second.tell(0, 0, 0, 1);
        t.due("breed() with the best one as TREE 1", second.x.breed(1), 0);
        t.due("ranked(0)", second.x.ranked(0), 1);
        Bench better = t.fresh("9", "5");
        better.x.addCase(0, 0, 0, 3);
        better.x.setRates(0, 100, 0);
        better.tell(0, 0, 0, 0, 102);
        t.due("breed() to what is better than the ELITE", better.x.breed(1), 0);
        t.due("ranked(0)", better.x.ranked(0), 1);
        // the best one then, not the one that was the best
        Bench bred = t.fresh("+ a 4");
        bred.x.addCase(5, 0, 0, 9);
        bred.x.setRates(0, 0, 100);
        bred.x.setChoosing(1, 0);
        bred.tell(0, 0, 1);
        t.due("breed() to what is worse", bred.x.breed(1), 4);
    }

    private static void generations(Bench t) {
        t.due("generations()", t.x.generations(), 0);
        t.plant("a");
        t.x.breed(1);
        t.due("generations() behind 1", t.x.generations(), 1);
        t.x.breed(10);
        t.due("generations() behind 10 more", t.x.generations(), 11);
        t.x.errorBred(10);
        t.due("generations() behind errorBred()", t.x.generations(), 11);
        t.x.fell(0);
        t.due("generations() behind fell()", t.x.generations(), 11);
    }

    private static void misses(Bench t) {
        t.due("misses()", t.x.misses(), 0);
        t.plant(Bench.deep(8));
        t.x.setRates(100, 0, 0);
        t.x.setChoosing(1, 0);
        // the last leaf with the root of itself: too deep, each time
        for (int misses = 1; misses <= 3; misses++) {
            t.tell(0, 0, 0, 14, 0);
            t.due("errorBred()", t.x.errorBred(1), 0);
            t.due("misses() behind errorBred()", t.x.misses(), misses - 1);
            t.x.breed(1);
            t.due("misses()", t.x.misses(), misses);
        }
        t.due("cross() that is not allowed", t.x.cross(0, 14, 0, 0), -1);
        t.due("misses() behind it", t.x.misses(), 3);
    }

    // ---- of TREES

    private static void sizes(Bench t) {
        for (int size : new int[] {1, 3, 5, 6, 39, 40}) {
            t.due("size()", t.fresh("a", Bench.sized(size)).x.size(1), size);
        }
    }

    private static void depths(Bench t) {
        for (int depth = 1; depth <= 8; depth++) {
            t.due("depth()", t.fresh("a", Bench.deep(depth)).x.depth(1), depth);
        }
    }

    private static void codes(Bench t) {
        int[] codes = {8, 11, 9, 1, 0, 13, 12, 10, 1, 0, 9, 0, 1, 2, 3, 4, 1, 1, 5, 0, 0, 6, 0, 7, 0, 1, 0};
        Bench made = t.fresh("if and < a 1 not or = b 2 < 1 c + - * a b / 4 3 min 1 max 5 c 9");
        for (int place = 0; place < codes.length; place++) {
            t.due("codeAt(0, " + place + ")", made.x.codeAt(0, place), codes[place]);
        }
    }

    private static void spans(Bench t) {
        for (int size : new int[] {1, 3, 39, 40}) {
            Bench made = t.fresh(Bench.sized(size));
            t.due("sizeAt() of the root", made.x.sizeAt(0, 0), size);
            t.due("sizeAt() of the last one", made.x.sizeAt(0, size - 1), 1);
        }
        Bench deep = t.fresh(Bench.deep(8));
        for (int place = 0; place < 15; place++) {
            t.due("sizeAt(0, " + place + ")", deep.x.sizeAt(0, place), place % 2 == 1 ? 1 : 15 - place);
        }
    }

    private static void above(Bench t) {
        // on the right, each one is beneath the SUM ahead of it
        Bench right = t.fresh(Bench.deep(8));
        for (int place = 1; place < 15; place++) {
            t.due("above(0, " + place + ")", right.x.above(0, place), place % 2 == 1 ? place - 1 : place - 2);
        }
        // on the left, the leaves close the SUMS one by one
        Bench left = t.fresh("+ + + + + + + a b b b b b b b");
        for (int place = 1; place < 15; place++) {
            t.due("above(0, " + place + ") on the left", left.x.above(0, place), place < 8 ? place - 1 : 14 - place);
        }
        Bench choice = t.fresh("if not < a 1 + b 2 c");
        int[] due = {-1, 0, 1, 2, 2, 0, 5, 5, 0};
        for (int place = 0; place < due.length; place++) {
            t.due("above(0, " + place + ") of a CHOICE", choice.x.above(0, place), due[place]);
        }
        Bench large = t.fresh("+ if < a b a b " + Bench.sized(33));
        t.due("above() of the first one behind 7", large.x.above(0, 7), 0);
        t.due("above() of the last one of 40", large.x.above(0, 39), 37);
    }

    private static void error(Bench t) {
        Bench made = t.fresh("a", "+ a 1", Bench.sized(40));
        for (int tree = 0; tree < 3; tree++) {
            t.due("error() without CASES", made.x.error(tree), 0);
        }
        made.x.addCase(9, 0, 0, 9);
        t.due("error() of what is due", made.x.error(0), 0);
        t.due("error() of one more", made.x.error(1), 1);
        made.x.setWay(1, 99);
        t.due("error() by the WAY 1", made.x.error(1), 1);
    }

    private static void merit(Bench t) {
        Bench made = t.fresh("a", Bench.sized(40));
        t.due("merit() without CASES", made.x.merit(1), 0);
        made.x.setWay(1, 99);
        t.due("merit() of SIZE 1", made.x.merit(0), 99);
        t.due("merit() of SIZE 40", made.x.merit(1), 3960);
        made.x.addCase(-99, 0, 0, 9999);
        t.due("merit() with an ERROR", made.x.merit(0), 10098 + 99);
        made.x.setWay(1, 0);
        t.due("merit() by a WEIGHT of 0", made.x.merit(0), 10098);
    }

    private static void hits(Bench t) {
        t.plant("a");
        t.due("hits() without CASES", t.x.hits(0), 0);
        for (int number = 0; number < 12; number++) {
            t.x.addCase(number, 0, 0, number);
            t.due("hits()", t.x.hits(0), number + 1);
        }
        Bench near = t.fresh("a");
        near.x.addCase(5, 0, 0, 4);
        near.x.addCase(5, 0, 0, 6);
        near.x.addCase(5, 0, 0, -5);
        t.due("hits() of none", near.x.hits(0), 0);
        near.x.addCase(5, 0, 0, 5);
        t.due("hits() of the last one", near.x.hits(0), 1);
    }

    // ---- of the GROVE

    private static void ranks(Bench t) {
        for (int tree = 0; tree < 16; tree++) {
            t.plant("" + tree);
        }
        t.x.addCase(0, 0, 0, 20);
        for (int rank = 0; rank < 16; rank++) {
            t.due("ranked(" + rank + ")", t.x.ranked(rank), 15 - rank);
        }
        t.due("ranked(0) of one", t.fresh("a").x.ranked(0), 0);
    }

    private static void different(Bench t) {
        t.due("different() of none", t.x.different(), 0);
        for (int tree = 0; tree < 16; tree++) {
            t.plant("+ a 1");
            t.due("different() of the same", t.x.different(), 1);
        }
        Bench all = t.fresh();
        for (int tree = 0; tree < 16; tree++) {
            all.plant("+ a " + tree);
            t.due("different() of others", all.x.different(), tree + 1);
        }
        all.x.recode(15, 2, 0, 0);
        t.due("different() when the last one is as the first one", all.x.different(), 15);
        Bench near = t.fresh("+ a 1", "+ a b", "- a 1", "+ b 1", "+ 1 a", "a", "1", "0", "+ a + 1 a");
        t.due("different() of what is nearly the same", near.x.different(), 9);
    }

    private static void alike(Bench t) {
        String[] trees = {"+ a * b 1", "- a * b 1", "+ b * b 1", "+ 0 * b 1", "+ a / b 1", "+ a * c 1", "+ a * b 2", "+ a * b b",
            "+ a b", "a"};
        int[] due = {5, 0, 1, 1, 2, 3, 4, 4, 2, 0};
        Bench made = t.fresh(trees);
        for (int other = 0; other < trees.length; other++) {
            t.due("alike(0, " + other + ")", made.x.alike(0, other), due[other]);
            t.due("alike(" + other + ", 0)", made.x.alike(other, 0), due[other]);
        }
        // what is the same again behind the first that differs does not count
        t.due("alike()", t.fresh("+ a + b c", "+ 1 + b c").x.alike(0, 1), 1);
        Bench twins = t.fresh(Bench.sized(40), Bench.sized(40));
        t.due("alike() of 40", twins.x.alike(0, 1), 40);
        twins.x.wither(1, 39, 5);
        t.due("alike() but for the last one", twins.x.alike(0, 1), 39);
        t.due("alike() of two leaves", t.fresh("a", "a").x.alike(0, 1), 1);
        t.due("alike() of a CONSTANT 1 and an INPUT 1", t.fresh("1", "b").x.alike(0, 1), 0);
    }

    private static void alikeItself(Bench t) {
        for (int size : new int[] {1, 3, 40}) {
            t.due("alike(0, 0)", t.fresh(Bench.sized(size)).x.alike(0, 0), size);
        }
    }

    private static void meanSize(Bench t) {
        t.due("meanSize() of one", t.fresh("a").x.meanSize(), 1.0);
        t.due("meanSize() of 1 and 6", t.fresh("a", Bench.sized(6)).x.meanSize(), 3.5);
        t.due("meanSize() of 1, 1 and 3", t.fresh("a", "a", "+ a b").x.meanSize(), 5.0 / 3.0);
        t.due("meanSize() of 40", t.fresh(Bench.sized(40), Bench.sized(40)).x.meanSize(), 40.0);
        Bench full = t.fresh();
        for (int tree = 0; tree < 15; tree++) {
            full.plant("a");
        }
        full.plant("+ a b");
        t.due("meanSize() of 16", full.x.meanSize(), 18.0 / 16.0);
        full.x.fell(15);
        t.due("meanSize() of 15 that are left", full.x.meanSize(), 1.0);
        full.x.fell(0);
        full.plant("+ a b");
        t.due("meanSize() with one planted again", full.x.meanSize(), 17.0 / 15.0);
    }

    // ---- what would be

    private static void errorCrossed(Bench t) {
        String[] trees = {"if < a 1 + b 2 c", "* 3 if = b c 4 5"};
        int[][] calls = {{0, 0}, {0, 7}, {7, 7}, {7, 0}, {1, 3}, {4, 1}};
        for (int[] call : calls) {
            Bench made = t.fresh(trees);
            t.due("errorCrossed() without CASES", made.x.errorCrossed(0, call[0], 1, call[1]), 0);
            made.x.addCase(0, 4, 4, -50);
            made.x.addCase(5, 4, 3, 90);
            long before = made.x.digest();
            int would = made.x.errorCrossed(0, call[0], 1, call[1]);
            t.due("digest()", made.x.digest(), before);
            made.x.cross(0, call[0], 1, call[1]);
            t.due("errorCrossed()", would, made.x.error(0));
        }
        Bench itself = t.fresh("+ a 4");
        itself.x.addCase(5, 0, 0, 0);
        t.due("errorCrossed() with itself", itself.x.errorCrossed(0, 2, 0, 0), 14);
        t.due("errorCrossed() at the same PLACE", itself.x.errorCrossed(0, 2, 0, 2), 9);
    }

    private static void bestHoist(Bench t) {
        // what is asked is the ERROR, whatever the WAY
        for (int way = 0; way <= 2; way++) {
            Bench made = t.fresh("if < a 1 + b 2 c");
            made.x.setWay(way, 99);
            made.x.addCase(0, 3, 4, 5);
            made.x.addCase(5, 3, 4, 4);
            t.due("bestHoist() where the root is right alone", made.x.bestHoist(0), 0);
            Bench last = t.fresh("+ 1 + 2 9");
            last.x.setWay(way, 99);
            last.x.addCase(0, 0, 0, 9);
            t.due("bestHoist() where the last one is right alone", last.x.bestHoist(0), 4);
            Bench near = t.fresh("+ 1 + 2 9");
            near.x.setWay(way, 99);
            near.x.addCase(0, 0, 0, 10);
            t.due("bestHoist() of 12, 1, 11, 2 and 9, for 10", near.x.bestHoist(0), 4);
        }
        // a CONDITION is no NUMBER, though it would give 1 or 0
        Bench condition = t.fresh("if < a b 7 8");
        condition.x.addCase(50, 60, 0, 1);
        t.due("bestHoist() without the CONDITION", condition.x.bestHoist(0), 4);
        t.due("bestHoist() of a leaf", t.fresh("a").x.bestHoist(0), 0);
    }

    private static void leastSize(Bench t) {
        // all are right: the whole, the SUM with 0, and the last leaf
        Bench made = t.fresh("+ 0 + 0 9");
        made.x.addCase(0, 0, 0, 9);
        t.due("bestHoist()", made.x.bestHoist(0), 4);
        Bench inner = t.fresh("* 1 + 4 5");
        inner.x.addCase(0, 0, 0, 9);
        t.due("bestHoist() of SIZE 5 and 3", inner.x.bestHoist(0), 2);
        // a smaller SIZE does not help against an ERROR that is one less
        Bench near = t.fresh("+ 4 * 5 8");
        near.x.addCase(0, 0, 0, 24);
        t.due("bestHoist() where 40 and 8 are 16 off, and 44 is 20", near.x.bestHoist(0), 4);
        near.x.addCase(0, 0, 0, 26);
        t.due("bestHoist() where 40 is 30 off, and 8 is 34", near.x.bestHoist(0), 2);
    }

    private static void smallestPlace(Bench t) {
        Bench made = t.fresh("+ 5 5");
        made.x.addCase(0, 0, 0, 5);
        t.due("bestHoist() of two that are the same", made.x.bestHoist(0), 1);
        Bench around = t.fresh("+ 7 + 4 6");
        around.x.addCase(0, 0, 0, 5);
        t.due("bestHoist() of 4 and 6, for 5", around.x.bestHoist(0), 3);
        Bench parts = t.fresh("+ * 2 3 * 3 2");
        parts.x.addCase(0, 0, 0, 6);
        t.due("bestHoist() of two SUMS", parts.x.bestHoist(0), 1);
        t.due("bestHoist() without CASES", t.fresh("if < a b c 1").x.bestHoist(0), 2);
    }

    private static void errorBred(Bench t) {
        for (int generations = 1; generations <= 10; generations++) {
            Bench made = t.fresh();
            made.fill();
            made.x.setLuck(generations * 999);
            long before = made.x.digest();
            int would = made.x.errorBred(generations);
            t.due("digest()", made.x.digest(), before);
            t.due("errorBred() again", made.x.errorBred(generations), would);
            t.due("errorBred(" + generations + ")", would, made.x.breed(generations));
        }
        // by the numbers that wait, and else by LUCK: of the DIFFERENCE its first or its second part is left
        for (int drawn = 1; drawn <= 2; drawn++) {
            Bench told = t.fresh("- 20 3");
            told.x.addCase(0, 0, 0, 0);
            told.x.setRates(50, 0, 50);
            told.x.setChoosing(1, 0);
            told.x.setLuck(drawn == 1 ? 7777 : 1);
            told.tell(60, 0, drawn);
            t.due("errorBred() by " + drawn, told.x.errorBred(1), drawn == 1 ? 20 : 3);
            t.due("waiting()", told.x.waiting(), 3);
            t.due("luck()", told.x.luck(), drawn == 1 ? 7777 : 1);
            told.x.breed(1);
            t.due("what is left", told.read(0), drawn == 1 ? "20" : "3");
        }
        // by LUCK alone
        for (int luck : new int[] {0, 5000, 9999}) {
            Bench lucky = t.fresh("- 20 3", "+ a b");
            lucky.x.addCase(0, 0, 0, 0);
            lucky.x.setRates(50, 0, 50);
            lucky.x.setLuck(luck);
            int would = lucky.x.errorBred(3);
            t.due("luck()", lucky.x.luck(), luck);
            t.due("errorBred() by a LUCK of " + luck, would, lucky.x.breed(3));
        }
    }

    private static long digestOf(Barnacle x) {
        List<Integer> numbers = new ArrayList<>(List.of(x.sketched(), x.trees(), x.cases(), x.generations(), x.misses(),
                x.luck(), x.waiting(), x.different()));
        for (int tree = 0; tree < x.trees(); tree++) {
            numbers.addAll(List.of(x.size(tree), x.depth(tree), x.error(tree), x.merit(tree), x.hits(tree)));
            for (int place = 0; place < x.size(tree); place++) {
                numbers.add(x.codeAt(tree, place));
                numbers.add(x.valueAt(tree, place));
            }
        }
        for (int rank = 0; rank < x.trees(); rank++) {
            numbers.add(x.ranked(rank));
        }
        long d = 58042;
        for (int number : numbers) {
            d = d * 31 + number;
        }
        return d;
    }

    private static void digestOfNone(Bench t) {
        long d = 58042;
        for (int number = 0; number < 8; number++) {
            d *= 31;
        }
        t.due("digest() of a new object", t.x.digest(), d);
        t.due("what that is", d, 49503501595150522L);
    }

    private static void digestOfAll(Bench t) {
        t.fill();
        t.due("digest()", t.x.digest(), digestOf(t.x));
        t.x.breed(1);
        t.due("digest() behind breed()", t.x.digest(), digestOf(t.x));
        t.x.setWay(2, 0);
        t.due("digest() by another WAY", t.x.digest(), digestOf(t.x));
        t.x.erase();
        t.due("digest() behind erase()", t.x.digest(), digestOf(t.x));
        Bench missed = t.fresh(Bench.deep(8));
        missed.x.setRates(100, 0, 0);
        missed.x.setChoosing(1, 0);
        missed.tell(0, 0, 0, 14, 0);
        missed.x.breed(1);
        t.due("misses()", missed.x.misses(), 1);
        t.due("digest() behind a MISS", missed.x.digest(), digestOf(missed.x));
        // each of them counts, and no two are the same
        Bench all = t.fresh("a", "b", "a", "+ a c");
        all.x.addCase(1, 2, 3, 2);
        all.x.addCase(4, 4, 4, 4);
        all.x.addCase(0, 0, 0, 7);
        all.x.setLuck(55);
        all.tell(1, 2, 3, 4, 5, 6);
        all.sketch("+ a + b + c +");
        long d = 58042;
        for (int number : new int[] {7, 4, 3, 0, 0, 55, 6, 3, 1, 1, 8, 8, 1, 1, 0, 1, 1, 7, 7, 2, 1, 1, 1, 1, 8, 8, 1, 1, 0,
            3, 2, 13, 13, 0, 2, 0, 1, 0, 1, 2, 1, 0, 2, 3}) {
            d = d * 31 + number;
        }
        t.due("digest() of what is known", all.x.digest(), d);
    }

    private static void digestWraps(Bench t) {
        // a leaf takes it beyond 64 bits: 7 numbers more, and its rank
        Bench one = t.fresh("a");
        BigInteger d = BigInteger.valueOf(58042);
        for (int number : new int[] {0, 1, 0, 0, 0, 0, 0, 1, 1, 1, 0, 0, 0, 1, 0, 0}) {
            d = d.multiply(BigInteger.valueOf(31)).add(BigInteger.valueOf(number));
        }
        t.due("whether it is beyond 64 bits", d.bitLength() > 64, true);
        t.due("digest() of one leaf", one.x.digest(), d.longValue());
        Bench large = t.fresh(Bench.sized(40), Bench.deep(8));
        large.x.addCase(99, -99, 99, -9999);
        t.due("digest() of large ones", large.x.digest(), digestOf(large.x));
    }
}
