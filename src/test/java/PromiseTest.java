import java.util.ArrayList;
import java.util.List;

/** For each promise of the document: ordinary inputs, edges, and wrong inputs. */
public final class PromiseTest {
    private static final Class<? extends RuntimeException> NO_PLACE = Bench.NO_PLACE;
    private static final Class<? extends RuntimeException> BAD = Bench.BAD;
    private static final Class<? extends RuntimeException> NOT_NOW = Bench.NOT_NOW;
    private static final int[] FAR = {-1, 16, Integer.MIN_VALUE, Integer.MAX_VALUE};

    private PromiseTest() {
    }

    public static void main(String[] args) {
        sketching();
        grove();
        changes();
        simplifying();
        settings();
        breeding();
        asking();
        judging();
        whatWouldBe();
        System.out.println("PromiseTest: " + (Bench.wrong == 0 ? "all answers are as due" : Bench.wrong + " are not"));
        if (Bench.wrong != 0) {
            System.exit(1);
        }
    }

    // ---- 1 to 4, 18

    private static void sketching() {
        newObject();
        sketchTypes();
        sketchWrong();
        sketchLimits();
        erase();
        plant();
    }

    private static void newObject() {
        Bench t = new Bench(1);
        t.due("sketched()", t.x.sketched(), 0);
        t.due("trees()", t.x.trees(), 0);
        t.due("cases()", t.x.cases(), 0);
        t.due("generations()", t.x.generations(), 0);
        t.due("misses()", t.x.misses(), 0);
        t.due("luck()", t.x.luck(), 0);
        t.due("waiting()", t.x.waiting(), 0);
        t.due("setWay()", t.x.setWay(1, 0), 0);
        t.due("setRates()", t.x.setRates(0, 0, 0), 70);
        t.due("setChoosing()", t.x.setChoosing(1, 0), 2);
        startSettings();
    }

    /** The settings of which no call tells: the WEIGHT, CHANGING, HOISTING and the ELITE. */
    private static void startSettings() {
        Bench t = new Bench(1);
        t.plant("+ a 1");
        t.plant("b");
        t.x.addCase(0, 5, 0, 5);
        // ELITE 1: the best one, b, comes first; r 90 HOISTS, as 70 + 20 is past and 70 + 20 + 5 not yet
        t.tell(90, 0, 0, 1);
        t.x.breed(1);
        t.due("elite and hoisting", t.read(0) + ", " + t.read(1), "b, a");
        t.due("waiting()", t.x.waiting(), 0);
        // 89 still CHANGES: the TREE 1, at PLACE 0, gets the input 2
        t.tell(89, 1, 1, 0, 2);
        t.x.breed(1);
        t.due("changing", t.read(1), "c");
        // 95 leaves it as it was, and draws no PLACE
        t.tell(95, 1, 1, 0, 0, 0);
        t.x.breed(1);
        t.due("as it was", t.x.waiting(), 3);
        Bench w = new Bench(1);
        w.plant("+ a 1");
        w.x.addCase(1, 1, 1, 9);
        w.due("merit() by WAY 0", w.x.merit(0), 7);
    }

    private static void sketchTypes() {
        Bench t = new Bench(2);
        for (int code = 2; code <= 8; code++) {
            t.due("sketch(" + code + ")", t.x.sketch(code, 0), Bench.partsOf(code));
            t.x.erase();
        }
        t.due("sketch(8)", t.x.sketch(8, -500), 3);
        for (int code = 9; code <= 12; code++) {
            Bench u = new Bench(2);
            u.x.sketch(8, 0);
            u.due("sketch(" + code + ")", u.x.sketch(code, 0), 4);
            boolean numbers = code < 11;
            u.fails("a wrong type", NOT_NOW, () -> u.x.sketch(numbers ? 13 : 0, 0));
            u.due("its own type", u.x.sketch(numbers ? 0 : 13, 0), numbers ? 3 : 4);
        }
        t.fails("a NUMBER as a CONDITION", NOT_NOW, () -> t.x.sketch(1, 0));
        t.due("sketch(13)", t.x.sketch(13, 0), 3);
        t.fails("a NUMBER beneath NOT", NOT_NOW, () -> t.x.sketch(2, 0));
        t.due("sketch < a 3", t.sketch("< a 3"), 2);
        t.fails("a CONDITION as a NUMBER", NOT_NOW, () -> t.x.sketch(9, 0));
        t.due("sketch 5", t.sketch("5"), 1);
        t.due("sketch c", t.sketch("c"), 0);
        t.due("sketched()", t.x.sketched(), 7);
        t.x.plant();
        t.due("read", t.read(0), "if not < a 3 5 c");
        t.due("valueAt of a code above 1", t.x.valueAt(0, 0), 0);
        for (int code = 9; code <= 13; code++) {
            int root = code;
            t.fails("a CONDITION as the root", NOT_NOW, () -> t.x.sketch(root, 0));
        }
    }

    private static void sketchWrong() {
        Bench t = new Bench(2);
        for (int code : new int[] {-1, 14, Integer.MIN_VALUE, Integer.MAX_VALUE}) {
            t.fails("code " + code, BAD, () -> t.x.sketch(code, 0));
        }
        for (int value : new int[] {-100, 100, Integer.MIN_VALUE, Integer.MAX_VALUE}) {
            t.fails("CONSTANT " + value, BAD, () -> t.x.sketch(0, value));
        }
        for (int value : new int[] {-1, 3, Integer.MIN_VALUE, Integer.MAX_VALUE}) {
            t.fails("INPUT " + value, BAD, () -> t.x.sketch(1, value));
        }
        t.due("CONSTANT -99", t.x.sketch(0, -99), 0);
        t.fails("a NODE behind a TREE", NOT_NOW, () -> t.x.sketch(0, 1));
        t.fails("a wrong NODE behind a TREE", BAD, () -> t.x.sketch(0, 100));
        t.x.plant();
        t.due("valueAt", t.x.valueAt(0, 0), -99);
        t.due("CONSTANT 99", t.x.sketch(0, 99), 0);
        t.x.erase();
        t.due("INPUT 2", t.x.sketch(1, 2), 0);
        t.x.erase();
        t.due("a value that is not looked at", t.x.sketch(2, 1000), 2);
    }

    private static void sketchLimits() {
        Bench t = new Bench(2);
        t.sketch("+ a + a + a + a + a + a + a");
        t.fails("a SUM at level 8", NOT_NOW, () -> t.x.sketch(2, 0));
        t.due("a leaf at level 8", t.sketch("a"), 0);
        t.x.erase();
        t.sketch("+ a + a + a + a + a");
        t.due("a CHOICE at level 6", t.sketch("if"), 3);
        t.fails("BOTH at level 7", NOT_NOW, () -> t.x.sketch(11, 0));
        t.due("BELOW at level 7", t.sketch("< a b"), 2);
        t.x.erase();
        t.sketch("+ a + a + a + a + a + a");
        t.fails("a CHOICE at level 7", NOT_NOW, () -> t.x.sketch(8, 0));
        t.due("a SUM at level 7", t.sketch("+"), 2);
        t.x.erase();
        t.sketch("if not not not not");
        t.due("NOT at level 6", t.x.sketched(), 5);
        t.due("the fifth NOT", t.sketch("not"), 3);
        t.fails("the sixth NOT, at level 7", NOT_NOW, () -> t.x.sketch(13, 0));
        t.x.erase();
        sketchSizes();
    }

    private static void sketchSizes() {
        Bench t = new Bench(2);
        // 39 NODES are the most that SUMS alone can be; a CHOICE of 6 and SUMS can make it 40
        t.due("39 NODES", t.sketch(Bench.wide(39)), 0);
        t.x.erase();
        String forty = "if < a b " + Bench.wide(17) + " " + Bench.wide(19);
        t.due("40 NODES", t.sketch(forty), 0);
        t.due("sketched()", t.x.sketched(), 40);
        t.x.plant();
        t.due("size()", t.x.size(0), 40);
        // 38 NODES and one that is missing: only a leaf can still come
        String most = Bench.wide(39);
        t.sketch(most.substring(0, most.length() - 2));
        t.fails("a SUM for the last of 39", NOT_NOW, () -> t.x.sketch(2, 0));
        t.fails("a CHOICE for the last of 39", NOT_NOW, () -> t.x.sketch(8, 0));
        t.due("a leaf for the last of 39", t.sketch("b"), 0);
        t.x.erase();
        // a SUM, 31 NODES, a CHOICE, and 5 that are missing at least: 38
        t.sketch("+ " + Bench.wide(31) + " if");
        t.due("BOTH that makes it 42", fits(t, 11), false);
        t.due("NOT that makes it 39", fits(t, 13), true);
        t.due("NOT that makes it 40", fits(t, 13), true);
        t.due("NOT that makes it 41", fits(t, 13), false);
        t.due("BELOW that leaves it 40", fits(t, 9), true);
        t.fails("a SUM that makes it 42", NOT_NOW, () -> t.x.sketch(2, 0));
        t.due("four leaves", t.sketch("a b 1 2"), 0);
        t.due("sketched()", t.x.sketched(), 40);
    }

    private static boolean fits(Bench t, int code) {
        try {
            t.x.sketch(code, 0);
            return true;
        } catch (IllegalStateException e) {
            return false;
        }
    }

    private static void erase() {
        Bench t = new Bench(3);
        t.due("erase() of nothing", t.x.erase(), 0);
        t.sketch("+ a if");
        t.due("erase()", t.x.erase(), 3);
        t.due("sketched()", t.x.sketched(), 0);
        t.due("a root again", t.sketch("+"), 2);
        t.sketch("a b");
        t.due("erase() of a TREE", t.x.erase(), 3);
        t.fails("plant() of nothing", NOT_NOW, t.x::plant);
        t.due("trees()", t.x.trees(), 0);
        Bench s = new Bench(18);
        s.due("sketched()", s.x.sketched(), 0);
        s.sketch("+ a");
        s.due("sketched()", s.x.sketched(), 2);
        s.sketch("3");
        s.due("sketched()", s.x.sketched(), 3);
        s.x.plant();
        s.due("sketched()", s.x.sketched(), 0);
    }

    private static void plant() {
        Bench t = new Bench(4);
        t.fails("plant() of nothing", NOT_NOW, t.x::plant);
        t.sketch("+ a");
        t.fails("plant() of an OPEN SKETCH", NOT_NOW, t.x::plant);
        t.sketch("7");
        for (int tree = 0; tree < 16; tree++) {
            t.due("plant()", t.x.plant(), tree);
            t.due("sketched()", t.x.sketched(), 0);
            t.sketch("" + tree);
        }
        t.fails("a TREE more than 16", NOT_NOW, t.x::plant);
        t.due("sketched()", t.x.sketched(), 1);
        t.due("the first", t.read(0), "+ a 7");
        t.due("the last", t.read(15), "14");
        t.x.fell(3);
        t.due("plant() behind the others", t.x.plant(), 15);
        t.due("the last", t.read(15), "15");
    }

    // ---- 5, 6, 19, 20

    private static void grove() {
        Bench t = new Bench(5);
        t.fails("fell() of none", NO_PLACE, () -> t.x.fell(0));
        t.plant("a");
        t.plant("+ a b");
        t.plant("if < a 1 b c");
        for (int tree : new int[] {-1, 3, 16, Integer.MIN_VALUE, Integer.MAX_VALUE}) {
            t.fails("fell(" + tree + ")", NO_PLACE, () -> t.x.fell(tree));
        }
        t.due("fell(1)", t.x.fell(1), 3);
        t.due("trees()", t.x.trees(), 2);
        t.due("TREE 0", t.read(0), "a");
        t.due("TREE 1", t.read(1), "if < a 1 b c");
        t.due("fell(1)", t.x.fell(1), 6);
        t.due("fell(0)", t.x.fell(0), 1);
        t.fails("fell(0)", NO_PLACE, () -> t.x.fell(0));
        Bench n = new Bench(19);
        n.due("trees()", n.x.trees(), 0);
        n.plant("a");
        n.plant("a");
        n.due("trees()", n.x.trees(), 2);
        addCases();
    }

    private static void addCases() {
        Bench t = new Bench(6);
        t.plant("+ + * a 2 b c");
        t.due("addCase()", t.x.addCase(1, 2, 3, 8), 0);
        t.due("error()", t.x.error(0), 1);
        t.due("addCase() at the edges", t.x.addCase(-99, 99, -99, -9999), 1);
        t.due("addCase() at the other edges", t.x.addCase(99, -99, 99, 9999), 2);
        t.due("error()", t.x.error(0), 1 + 9801 + 9801);
        for (int bad : new int[] {-100, 100, Integer.MIN_VALUE, Integer.MAX_VALUE}) {
            t.fails("a is " + bad, BAD, () -> t.x.addCase(bad, 0, 0, 0));
            t.fails("b is " + bad, BAD, () -> t.x.addCase(0, bad, 0, 0));
            t.fails("c is " + bad, BAD, () -> t.x.addCase(0, 0, bad, 0));
        }
        for (int bad : new int[] {-10000, 10000, Integer.MIN_VALUE, Integer.MAX_VALUE}) {
            t.fails("due is " + bad, BAD, () -> t.x.addCase(0, 0, 0, bad));
        }
        for (int number = 3; number < 12; number++) {
            t.due("addCase()", t.x.addCase(0, 0, 0, 0), number);
        }
        t.fails("a CASE more than 12", NOT_NOW, () -> t.x.addCase(0, 0, 0, 0));
        t.fails("a wrong CASE more than 12", BAD, () -> t.x.addCase(0, 0, 100, 0));
        Bench n = new Bench(20);
        n.due("cases()", n.x.cases(), 0);
        n.x.addCase(0, 0, 0, 0);
        n.x.addCase(0, 0, 0, 0);
        n.due("cases()", n.x.cases(), 2);
    }

    // ---- 8 to 11

    private static void changes() {
        crossing();
        crossingLimits();
        hoisting();
        recoding();
        withering();
    }

    private static void crossing() {
        Bench t = new Bench(8);
        t.plant("if < a 1 + b 2 c");
        t.plant("if = c 3 * a b 9");
        t.due("cross()", t.x.cross(0, 4, 1, 4), 8);
        t.due("the TREE", t.read(0), "if < a 1 * a b c");
        t.due("the other one", t.read(1), "if = c 3 * a b 9");
        t.due("a leaf for a part", t.x.cross(0, 4, 1, 7), 6);
        t.due("the TREE", t.read(0), "if < a 1 9 c");
        t.due("a CONDITION", t.x.cross(0, 1, 1, 1), 6);
        t.due("the TREE", t.read(0), "if = c 3 9 c");
        t.due("a CONDITION for a NUMBER", t.x.cross(0, 4, 1, 1), -1);
        t.due("a NUMBER for a CONDITION", t.x.cross(0, 1, 1, 0), -1);
        t.due("the TREE", t.read(0), "if = c 3 9 c");
        t.due("the root into itself", t.x.cross(0, 5, 0, 0), 11);
        t.due("the TREE", t.read(0), "if = c 3 9 if = c 3 9 c");
        t.due("a part for the root of itself", t.x.cross(0, 0, 0, 5), 6);
        t.due("the TREE", t.read(0), "if = c 3 9 c");
        t.due("itself at the same PLACE", t.x.cross(0, 0, 0, 0), 6);
        t.due("the root", t.x.cross(0, 0, 1, 0), 8);
        t.due("the TREE", t.read(0), "if = c 3 * a b 9");
        wrongPlaces(t, "cross", (tree, place) -> t.x.cross(tree, place, 1, 0));
        wrongPlaces(t, "cross with", (tree, place) -> t.x.cross(0, 0, tree, place));
    }

    private static void crossingLimits() {
        Bench t = new Bench(8);
        t.plant("if < a b " + Bench.wide(17) + " " + Bench.wide(19));
        t.plant("+ a + a b");
        t.plant(Bench.deep(8));
        t.plant("+ a b");
        t.due("41 NODES and more", t.x.cross(0, 2, 3, 0), -1);
        t.due("as it was", t.x.size(0), 40);
        t.due("40 NODES still", t.x.cross(0, 2, 1, 1), 40);
        t.due("DEPTH 9", t.x.cross(2, 14, 3, 0), -1);
        t.due("as it was", t.read(2), Bench.deep(8));
        t.due("DEPTH 8 still", t.x.cross(2, 12, 3, 0), 15);
        t.due("depth()", t.x.depth(2), 8);
        t.due("DEPTH 9 on the short side", t.x.cross(2, 1, 2, 0), -1);
        t.due("DEPTH 8 on the short side", t.x.cross(2, 1, 2, 2), 27);
        t.due("depth()", t.x.depth(2), 8);
    }

    private static void hoisting() {
        Bench t = new Bench(9);
        t.plant("if < a 1 + b 2 c");
        t.due("a CONDITION", t.x.hoist(0, 1), -1);
        t.due("as it was", t.read(0), "if < a 1 + b 2 c");
        t.due("the root", t.x.hoist(0, 0), 8);
        wrongPlaces(t, "hoist", t.x::hoist);
        t.due("a part", t.x.hoist(0, 4), 3);
        t.due("the TREE", t.read(0), "+ b 2");
        t.due("the last leaf", t.x.hoist(0, 2), 1);
        t.due("the TREE", t.read(0), "2");
        t.due("depth()", t.x.depth(0), 1);
    }

    private static void recoding() {
        Bench t = new Bench(10);
        t.plant("if and < a 1 not = b 2 + a b 7");
        String[] kin = {"0 1", "2 3 4 5 6 7", "8", "9 10", "11 12", "13"};
        int[] places = {12, 9, 0, 2, 1, 5};
        for (int index = 0; index < kin.length; index++) {
            for (int code = 0; code <= 13; code++) {
                int place = places[index];
                int old = t.x.codeAt(0, place);
                boolean fits = (" " + kin[index] + " ").contains(" " + code + " ");
                t.due("recode(" + place + ", " + code + ")", t.x.recode(0, place, code, 2), fits ? old : -1);
                t.due("codeAt()", t.x.codeAt(0, place), fits ? code : old);
            }
        }
        t.due("the TREE", t.read(0), "if or = a 1 not = b 2 max a b c");
        t.due("its own code again", t.x.recode(0, 12, 1, 1), 1);
        t.due("an INPUT becomes a CONSTANT", t.x.recode(0, 11, 0, -99), 1);
        t.due("the TREE", t.read(0), "if or = a 1 not = b 2 max a -99 b");
        t.due("a value that is not looked at", t.x.recode(0, 9, 2, 5000), 7);
        t.due("valueAt()", t.x.valueAt(0, 9), 0);
        t.due("size()", t.x.size(0), 13);
        recodingWrong();
    }

    private static void recodingWrong() {
        Bench t = new Bench(10);
        t.plant("if and < a 1 not = b 2 + a b 7");
        wrongPlaces(t, "recode", (tree, place) -> t.x.recode(tree, place, 0, 0));
        wrongPlaces(t, "recode with a wrong code", (tree, place) -> t.x.recode(tree, place, 14, 0));
        for (int code : new int[] {-1, 14, Integer.MIN_VALUE, Integer.MAX_VALUE}) {
            t.fails("code " + code, BAD, () -> t.x.recode(0, 0, code, 0));
        }
        t.fails("CONSTANT 100", BAD, () -> t.x.recode(0, 10, 0, 100));
        t.fails("CONSTANT -100", BAD, () -> t.x.recode(0, 0, 0, -100));
        t.fails("INPUT 3", BAD, () -> t.x.recode(0, 10, 1, 3));
        t.fails("INPUT -1", BAD, () -> t.x.recode(0, 10, 1, -1));
    }

    private static void withering() {
        Bench t = new Bench(11);
        t.plant("if < a 1 + b 2 c");
        t.due("a CONDITION", t.x.wither(0, 1, 0), -1);
        t.due("as it was", t.read(0), "if < a 1 + b 2 c");
        wrongPlaces(t, "wither", (tree, place) -> t.x.wither(tree, place, 0));
        wrongPlaces(t, "wither with a wrong value", (tree, place) -> t.x.wither(tree, place, 100));
        for (int value : new int[] {-100, 100, Integer.MIN_VALUE, Integer.MAX_VALUE}) {
            t.fails("value " + value, BAD, () -> t.x.wither(0, 0, value));
            t.fails("a CONDITION, value " + value, BAD, () -> t.x.wither(0, 1, value));
        }
        t.due("a part", t.x.wither(0, 4, -99), 6);
        t.due("the TREE", t.read(0), "if < a 1 -99 c");
        t.due("a leaf", t.x.wither(0, 5, 99), 6);
        t.due("the TREE", t.read(0), "if < a 1 -99 99");
        t.due("the root", t.x.wither(0, 0, 4), 1);
        t.due("the TREE", t.read(0), "4");
    }

    private interface PlaceCall {
        int at(int tree, int place);
    }

    /** No such TREE, or no such PLACE of TREE 0. */
    private static void wrongPlaces(Bench t, String call, PlaceCall made) {
        int trees = t.x.trees();
        int size = t.x.size(0);
        for (int tree : new int[] {-1, trees, 16, Integer.MIN_VALUE, Integer.MAX_VALUE}) {
            t.fails(call + " TREE " + tree, NO_PLACE, () -> made.at(tree, 0));
        }
        for (int place : new int[] {-1, size, 40, Integer.MIN_VALUE, Integer.MAX_VALUE}) {
            t.fails(call + " PLACE " + place, NO_PLACE, () -> made.at(0, place));
        }
    }

    // ---- 12

    private static void simplifying() {
        String[][] pairs = {
            {"a", "a"}, {"7", "7"}, {"+ a b", "+ a b"},
            {"+ 3 4", "7"}, {"* 9 11", "99"}, {"- 0 99", "-99"}, {"* 10 10", "* 10 10"}, {"- -50 50", "- -50 50"},
            {"if < 1 2 + 3 4 9", "7"}, {"if = 1 2 3 4", "4"}, {"/ 7 0", "7"}, {"/ -7 2", "-3"},
            {"+ * 50 50 * -50 50", "0"}, {"+ a * 3 4", "+ a 12"},
            {"+ a 0", "a"}, {"- a 0", "a"}, {"* a 1", "a"}, {"/ a 1", "a"},
            {"+ a 1", "+ a 1"}, {"* a 2", "* a 2"}, {"/ a 0", "/ a 0"}, {"- a 1", "- a 1"},
            {"+ 0 a", "a"}, {"* 1 a", "a"}, {"- 0 a", "- 0 a"}, {"/ 1 a", "/ 1 a"}, {"/ 0 a", "/ 0 a"},
            {"- + a b + a b", "0"}, {"- + a b + b a", "- + a b + b a"}, {"- a b", "- a b"}, {"/ a a", "/ a a"},
            {"min a a", "a"}, {"max + a 2 + a 2", "+ a 2"}, {"min a b", "min a b"}, {"max a b", "max a b"},
            {"if < a b c c", "c"}, {"if < a b c a", "if < a b c a"}, {"if < a a b c", "if < a a b c"},
            {"if and < a b < a b a b", "if < a b a b"}, {"if or = a 1 = a 1 a b", "if = a 1 a b"},
            {"if and < a b < b a a b", "if and < a b < b a a b"}, {"if or < a 1 < a 2 a b", "if or < a 1 < a 2 a b"},
            {"if not not < a b a b", "if < a b a b"}, {"if not not not < a b a b", "if not < a b a b"},
            {"if not < a b a b", "if not < a b a b"},
            {"* a 0", "0"}, {"* 0 a", "0"}, {"* + a b 0", "0"}, {"+ 0 0", "0"}, {"* 1 0", "0"},
            {"+ * a 0 + b - c c", "b"}, {"if < + 1 1 * a 1 + b 0 b", "b"}, {"* 99 99", "* 99 99"},
            {"- * 99 99 * 99 99", "0"}, {"* * 50 50 0", "0"}, {"+ * 50 50 0", "* 50 50"}, {"min * 50 50 * 50 50", "* 50 50"},
            {"if and not not = a b = a b + 1 2 - 4 1", "3"},
        };
        for (String[] pair : pairs) {
            Bench t = new Bench(12);
            t.plant("a");
            t.plant(pair[0]);
            int less = pair[0].split(" ").length - pair[1].split(" ").length;
            t.due("simplify() of " + pair[0], t.x.simplify(1), less);
            t.due("what it is then", t.read(1), pair[1]);
            t.due("simplify() again", t.x.simplify(1), 0);
            for (int tree : new int[] {-1, 2, 16, Integer.MIN_VALUE, Integer.MAX_VALUE}) {
                t.fails("simplify(" + tree + ")", NO_PLACE, () -> t.x.simplify(tree));
            }
        }
    }

    // ---- 7, 13 to 16, 37, 38

    private static void settings() {
        ways();
        rates();
        choosing();
        luck();
        telling();
    }

    private static void ways() {
        Bench t = new Bench(7);
        t.plant("+ a 1");
        t.plant("a");
        t.x.addCase(5, 0, 0, 6);
        t.due("setWay(1, 99)", t.x.setWay(1, 99), 0);
        t.due("merit()", t.x.merit(0), 297);
        t.due("setWay(1, 0)", t.x.setWay(1, 0), 1);
        t.due("merit()", t.x.merit(0), 0);
        t.due("setWay(2, 5)", t.x.setWay(2, 5), 1);
        t.due("merit()", t.x.merit(0), 0);
        for (int way : new int[] {-1, 3, Integer.MIN_VALUE, Integer.MAX_VALUE}) {
            t.fails("way " + way, BAD, () -> t.x.setWay(way, 1));
        }
        for (int weight : new int[] {-1, 100, Integer.MIN_VALUE, Integer.MAX_VALUE}) {
            t.fails("weight " + weight, BAD, () -> t.x.setWay(1, weight));
        }
        t.due("setWay(0, 1)", t.x.setWay(0, 1), 2);
        Bench w = new Bench(7);
        w.plant("+ a 1");
        w.x.setWay(1, 3);
        w.fails("weight 100", BAD, () -> w.x.setWay(0, 100));
        w.due("the WEIGHT as it was", w.x.merit(0), 9);
    }

    private static void rates() {
        Bench t = new Bench(13);
        t.plant("+ a 1");
        t.plant("b");
        for (int bad : new int[] {-1, 101, Integer.MIN_VALUE, Integer.MAX_VALUE}) {
            t.fails("crossing " + bad, BAD, () -> t.x.setRates(bad, 0, 0));
            t.fails("changing " + bad, BAD, () -> t.x.setRates(0, bad, 0));
            t.fails("hoisting " + bad, BAD, () -> t.x.setRates(0, 0, bad));
        }
        t.fails("101 together", BAD, () -> t.x.setRates(34, 33, 34));
        t.fails("300 together", BAD, () -> t.x.setRates(100, 100, 100));
        t.fails("far too much together", BAD, () -> t.x.setRates(Integer.MAX_VALUE, Integer.MAX_VALUE, 2));
        t.due("setRates(34, 33, 33)", t.x.setRates(34, 33, 33), 70);
        t.due("setRates(0, 0, 100)", t.x.setRates(0, 0, 100), 34);
        t.due("setRates(0, 100, 0)", t.x.setRates(0, 100, 0), 0);
        t.due("setRates(100, 0, 0)", t.x.setRates(100, 0, 0), 0);
        t.due("setRates(0, 0, 0)", t.x.setRates(0, 0, 0), 100);
        // each rate is that of its own kind of change
        rateDraws(9, 5);
        rateDraws(10, 4);
        rateDraws(29, 4);
        rateDraws(30, 3);
        rateDraws(59, 3);
        rateDraws(60, 2);
    }

    /** Of one leaf, CROSSING takes 5 draws, CHANGING 4, HOISTING 3, none of them 2. */
    private static void rateDraws(int rate, int due) {
        Bench t = new Bench(13);
        t.plant("a");
        t.x.setChoosing(1, 0);
        t.x.setRates(10, 20, 30);
        t.tell(rate, 0, 0, 0, 0, 0, 0, 0);
        t.x.breed(1);
        t.due("draws for a rate of " + rate, 8 - t.x.waiting(), due);
    }

    private static void choosing() {
        Bench t = new Bench(14);
        t.plant("a");
        t.plant("b");
        t.due("setChoosing(5, 4)", t.x.setChoosing(5, 4), 2);
        t.due("setChoosing(1, 0)", t.x.setChoosing(1, 0), 5);
        t.due("setChoosing(3, 1)", t.x.setChoosing(3, 1), 1);
        for (int bad : new int[] {0, -1, 6, Integer.MIN_VALUE, Integer.MAX_VALUE}) {
            t.fails("tournament " + bad, BAD, () -> t.x.setChoosing(bad, 1));
        }
        for (int bad : new int[] {-1, 5, Integer.MIN_VALUE, Integer.MAX_VALUE}) {
            t.fails("elite " + bad, BAD, () -> t.x.setChoosing(1, bad));
        }
        t.due("setChoosing(2, 1)", t.x.setChoosing(2, 1), 3);
        // as many draws as the TOURNAMENT, for each one that is not of the ELITE
        for (int tournament = 1; tournament <= 5; tournament++) {
            for (int elite = 0; elite <= 4; elite++) {
                Bench u = new Bench(14);
                u.plant("a");
                u.plant("b");
                u.plant("c");
                u.x.setRates(0, 0, 0);
                u.x.setChoosing(tournament, elite);
                u.tell(new int[30]);
                u.x.breed(1);
                int bred = Math.max(0, 3 - elite);
                u.due("draws", 30 - u.x.waiting(), bred * (1 + tournament));
            }
        }
    }

    private static void luck() {
        Bench t = new Bench(15);
        t.due("setLuck(9999)", t.x.setLuck(9999), 0);
        t.due("luck()", t.x.luck(), 9999);
        t.due("setLuck(50)", t.x.setLuck(50), 9999);
        for (int bad : new int[] {-1, 10000, Integer.MIN_VALUE, Integer.MAX_VALUE}) {
            t.fails("luck " + bad, BAD, () -> t.x.setLuck(bad));
        }
        t.due("setLuck(0)", t.x.setLuck(0), 50);
        Bench u = new Bench(37);
        u.due("luck()", u.x.luck(), 0);
        u.plant("a");
        u.x.setRates(0, 0, 0);
        u.x.setChoosing(1, 0);
        u.x.breed(1);
        // two draws: 2777, then (2777 * 4621 + 2777) % 10000
        u.due("luck() after two draws", u.x.luck(), (2777 * 4621 + 2777) % 10000);
        u.x.setLuck(1);
        u.due("luck()", u.x.luck(), 1);
        u.tell(5, 5);
        u.x.breed(1);
        u.due("luck() after TOLD draws", u.x.luck(), 1);
    }

    private static void telling() {
        Bench t = new Bench(16);
        for (int bad : new int[] {-1, -100, Integer.MIN_VALUE}) {
            t.fails("tell(" + bad + ")", BAD, () -> t.x.tell(bad));
        }
        t.due("tell(0)", t.x.tell(0), 1);
        t.due("tell(the most)", t.x.tell(Integer.MAX_VALUE), 2);
        for (int waiting = 3; waiting <= 40; waiting++) {
            t.due("tell()", t.x.tell(waiting), waiting);
        }
        t.fails("one more than 40", NOT_NOW, () -> t.x.tell(1));
        t.fails("a wrong one more than 40", BAD, () -> t.x.tell(-1));
        Bench u = new Bench(38);
        u.due("waiting()", u.x.waiting(), 0);
        u.tell(3, 4, 5);
        u.due("waiting()", u.x.waiting(), 3);
        u.plant("a");
        u.x.setRates(0, 0, 0);
        u.x.setChoosing(1, 0);
        u.x.breed(1);
        u.due("waiting()", u.x.waiting(), 1);
        u.x.breed(1);
        u.due("waiting()", u.x.waiting(), 0);
        // 2147483647 % 3 is 1: TREE 1 is chosen; behind it the numbers come in the order in which they were TOLD
        Bench v = new Bench(16);
        v.plant("a");
        v.plant("b");
        v.plant("c");
        v.x.setRates(0, 0, 0);
        v.x.setChoosing(1, 0);
        v.tell(0, Integer.MAX_VALUE, 0, 2, 0, 3);
        v.x.breed(1);
        v.due("what was chosen", v.read(0) + v.read(1) + v.read(2), "bca");
    }

    // ---- 17, 35, 36

    private static void breeding() {
        Bench t = new Bench(17);
        t.fails("breed(1) of none", NOT_NOW, () -> t.x.breed(1));
        t.fails("breed(0) of none", BAD, () -> t.x.breed(0));
        t.plant("a");
        for (int bad : new int[] {0, -1, 11, Integer.MIN_VALUE, Integer.MAX_VALUE}) {
            t.fails("breed(" + bad + ")", BAD, () -> t.x.breed(bad));
        }
        t.x.addCase(3, 0, 0, 7);
        t.due("breed(10)", t.x.breed(10), 4);
        Bench g = new Bench(35);
        g.due("generations()", g.x.generations(), 0);
        g.plant("a");
        g.x.breed(10);
        g.due("generations()", g.x.generations(), 10);
        g.x.breed(3);
        g.due("generations()", g.x.generations(), 13);
        elites();
        tournaments();
        crossedYoung();
        changedYoung();
        hoistedYoung();
        missed();
    }

    private static String all(Bench t) {
        List<String> texts = new ArrayList<>();
        for (int tree = 0; tree < t.x.trees(); tree++) {
            texts.add(t.read(tree));
        }
        return String.join(", ", texts);
    }

    private static void elites() {
        Bench t = new Bench(17);
        t.plant("9");
        t.plant("3");
        t.plant("5");
        t.plant("+ 1 2");
        t.x.addCase(0, 0, 0, 3);
        t.x.setRates(0, 0, 0);
        t.x.setChoosing(1, 4);
        t.due("breed(1)", t.x.breed(1), 0);
        t.due("the best ones first", all(t), "3, + 1 2, 5, 9");
        t.due("misses()", t.x.misses(), 0);
        t.x.setWay(1, 50);
        t.x.fell(0);
        t.x.fell(2);
        t.due("the ERROR of the one with the best MERIT", t.x.breed(1), 2);
        t.due("no more than there are", all(t), "5, + 1 2");
    }

    private static void tournaments() {
        Bench t = new Bench(17);
        t.plant("9");
        t.plant("3");
        t.plant("5");
        t.plant("3");
        t.x.addCase(0, 0, 0, 3);
        t.x.setRates(0, 0, 0);
        t.x.setChoosing(3, 0);
        t.tell(50, 0, 2, 0);
        t.tell(50, 3, 0, 1);
        t.tell(50, 0, 0, 0);
        t.tell(50, 2, 2, 3);
        t.x.breed(1);
        t.due("the best of three", all(t), "5, 3, 9, 3");
        // the new ones are made out of the old ones: TREE 0 is chosen last, and is still what it was
        Bench u = new Bench(17);
        u.plant("a");
        u.plant("b");
        u.x.setRates(0, 0, 0);
        u.x.setChoosing(1, 0);
        u.tell(0, 1, 0, 0);
        u.x.breed(1);
        u.due("out of the old ones", all(u), "b, a");
    }

    private static void crossedYoung() {
        Bench t = new Bench(17);
        t.plant("+ a 1");
        t.plant("if < b c 2 3");
        t.x.setRates(100, 0, 0);
        t.x.setChoosing(1, 0);
        // r, TREE 0, TREE 1, PLACE 2, the NUMBER 3 of TREE 1; then TREE 1 with itself, PLACE 1, its only CONDITION
        t.tell(0, 0, 1, 2, 3);
        t.tell(99, 1, 1, 1, 5);
        t.x.breed(1);
        t.due("CROSSED", all(t), "+ a 2, if < b c 2 3");
        t.due("waiting()", t.x.waiting(), 0);
        t.due("misses()", t.x.misses(), 0);
        // the second one of two that are chosen is the other one, even where it is the better one
        Bench u = new Bench(17);
        u.plant("* a a");
        u.plant("b");
        u.x.addCase(0, 5, 0, 5);
        u.x.setRates(100, 0, 0);
        u.x.setChoosing(2, 1);
        u.tell(0, 0, 0, 1, 0, 1, 0);
        u.x.breed(1);
        u.due("the first one is CROSSED", all(u), "b, * b a");
    }

    private static void changedYoung() {
        Bench t = new Bench(17);
        t.plant("if and < a 1 not = b 2 + a b 7");
        t.x.setRates(0, 100, 0);
        t.x.setChoosing(1, 0);
        int[] places = {12, 12, 11, 9, 9, 0, 2, 6, 1, 5};
        int[] draws = {198, 0, 2, 0, 5, 0, 1, 0, 1, 0};
        String[] dues = {
            "if and < a 1 not = b 2 + a b 99", "if and < a 1 not = b 2 + a b -99", "if and < a 1 not = b 2 + a c -99",
            "if and < a 1 not = b 2 + a c -99", "if and < a 1 not = b 2 max a c -99",
            "if and < a 1 not = b 2 max a c -99", "if and = a 1 not = b 2 max a c -99",
            "if and = a 1 not < b 2 max a c -99", "if or = a 1 not < b 2 max a c -99",
            "if or = a 1 not < b 2 max a c -99"
        };
        for (int index = 0; index < draws.length; index++) {
            t.tell(0, 0, places[index], draws[index]);
            t.x.breed(1);
            t.due("CHANGED at " + places[index], t.read(0), dues[index]);
            t.due("waiting()", t.x.waiting(), 0);
        }
        t.due("misses()", t.x.misses(), 0);
        changedCodes();
    }

    /** Each code becomes each one of its kin: what is drawn is left by how many there are. */
    private static void changedCodes() {
        int[][] kins = {{2, 3, 4, 5, 6, 7}, {8}, {9, 10}, {11, 12}, {13}};
        int[] places = {9, 0, 2, 1, 5};
        for (int kin = 0; kin < kins.length; kin++) {
            for (int old : kins[kin]) {
                for (int drawn = 0; drawn < 14; drawn++) {
                    Bench t = new Bench(17);
                    t.plant("if and < a 1 not = b 2 + a b 7");
                    t.x.recode(0, places[kin], old, 0);
                    t.x.setRates(0, 100, 0);
                    t.x.setChoosing(1, 0);
                    t.tell(0, 0, places[kin], drawn);
                    t.x.breed(1);
                    int due = kins[kin][drawn % kins[kin].length];
                    t.due("CHANGED from " + old + " by " + drawn, t.x.codeAt(0, places[kin]), due);
                }
            }
        }
        for (int drawn : new int[] {0, 1, 99, 198, 199, 200, 397, 398}) {
            Bench t = new Bench(17);
            t.plant("5");
            t.x.setRates(0, 100, 0);
            t.x.setChoosing(1, 0);
            t.tell(0, 0, 0, drawn);
            t.x.breed(1);
            t.due("a CONSTANT CHANGED by " + drawn, t.x.valueAt(0, 0), drawn % 199 - 99);
        }
    }

    private static void hoistedYoung() {
        Bench t = new Bench(17);
        t.plant("if < + a b 1 * b 2 c");
        t.x.setRates(0, 0, 100);
        t.x.setChoosing(1, 0);
        // the NUMBERS are at 0, 2, 3, 4, 5, 6, 7, 8, 9: below 9 is drawn
        t.tell(0, 0, 14);
        t.x.breed(1);
        t.due("HOISTED", t.read(0), "* b 2");
        t.tell(0, 0, 3);
        t.x.breed(1);
        t.due("HOISTED at the root", t.read(0), "* b 2");
        t.due("misses()", t.x.misses(), 0);
    }

    private static void missed() {
        Bench t = new Bench(36);
        t.due("misses()", t.x.misses(), 0);
        t.plant("if < a b c 1");
        t.plant("+ a b");
        t.x.setRates(100, 0, 0);
        t.x.setChoosing(1, 0);
        // PLACE 1 of TREE 0 is a CONDITION, and TREE 1 has none: nothing is drawn; then TREE 1 with its own root
        t.tell(0, 0, 1, 1);
        t.tell(0, 1, 1, 0, 0);
        t.x.breed(1);
        t.due("no PLACE in the other one", all(t), "if < a b c 1, + a b");
        t.due("waiting()", t.x.waiting(), 0);
        t.due("misses()", t.x.misses(), 1);
        Bench u = new Bench(36);
        u.plant(Bench.deep(8));
        u.x.setRates(100, 0, 0);
        u.x.setChoosing(1, 0);
        u.tell(0, 0, 0, 2, 0);
        u.x.breed(1);
        u.due("DEPTH 9", u.read(0), Bench.deep(8));
        u.due("misses()", u.x.misses(), 1);
        Bench v = new Bench(36);
        v.plant(Bench.wide(39));
        v.x.setRates(100, 0, 0);
        v.x.setChoosing(1, 0);
        v.tell(0, 0, 0, 1, 0);
        v.x.breed(1);
        v.due("more than 40 NODES", v.read(0), Bench.wide(39));
        v.due("misses()", v.x.misses(), 1);
        v.x.setRates(0, 50, 50);
        v.x.breed(10);
        v.due("misses() without CROSSING", v.x.misses(), 1);
    }

    // ---- 21 to 27, 32 to 34

    private static Bench asked(int promise) {
        Bench t = new Bench(promise);
        t.plant("if and < a 1 not = b 2 + a -9 * c + 7 b");
        t.plant("a");
        return t;
    }

    private static void asking() {
        Bench t = asked(21);
        String nodes = t.read(0);
        t.due("size()", t.x.size(0), 17);
        t.due("size()", t.x.size(1), 1);
        t.due("size() by read", nodes.split(" ").length, 17);
        t.of(26).due("above the last one", t.x.above(0, 16), 14);
        for (int tree : new int[] {-1, 2, 16, Integer.MIN_VALUE, Integer.MAX_VALUE}) {
            askingNoTree(asked(21), tree);
        }
        Bench p = asked(23);
        wrongPlaces(p.of(23), "codeAt", p.x::codeAt);
        wrongPlaces(p.of(24), "valueAt", p.x::valueAt);
        Bench q = asked(25);
        wrongPlaces(q.of(25), "sizeAt", q.x::sizeAt);
        wrongPlaces(q.of(26), "above", q.x::above);
        depths();
        rows();
        giving();
        counting();
    }

    private static void askingNoTree(Bench t, int tree) {
        t.of(21).fails("size(" + tree + ")", NO_PLACE, () -> t.x.size(tree));
        t.of(22).fails("depth(" + tree + ")", NO_PLACE, () -> t.x.depth(tree));
        t.of(28).fails("error(" + tree + ")", NO_PLACE, () -> t.x.error(tree));
        t.of(29).fails("merit(" + tree + ")", NO_PLACE, () -> t.x.merit(tree));
        t.of(30).fails("hits(" + tree + ")", NO_PLACE, () -> t.x.hits(tree));
        t.of(31).fails("ranked(" + tree + ")", NO_PLACE, () -> t.x.ranked(tree));
        t.of(40).fails("bestHoist(" + tree + ")", NO_PLACE, () -> t.x.bestHoist(tree));
        t.of(27).fails("gives(" + tree + ")", NO_PLACE, () -> t.x.gives(tree, 0, 0, 0));
        t.of(27).fails("gives(" + tree + ") of wrong inputs", NO_PLACE, () -> t.x.gives(tree, 100, 0, 0));
        t.of(33).fails("alike(" + tree + ", 0)", NO_PLACE, () -> t.x.alike(tree, 0));
        t.of(33).fails("alike(0, " + tree + ")", NO_PLACE, () -> t.x.alike(0, tree));
    }

    private static void depths() {
        Bench t = new Bench(22);
        for (int depth = 1; depth <= 8; depth++) {
            t.due("plant()", t.plant(Bench.deep(depth)), depth - 1);
            t.due("depth()", t.x.depth(depth - 1), depth);
        }
        t.plant("if < a b * c c + a + b c");
        t.due("depth() by the last part", t.x.depth(8), 4);
        t.plant("if not not < a b c c");
        t.due("depth() by the first part", t.x.depth(9), 5);
        t.plant("max + + a b c 1");
        t.due("depth() of a TREE that leans left", t.x.depth(10), 4);
    }

    private static void rows() {
        int[] codes = {8, 11, 9, 1, 0, 13, 10, 1, 0, 2, 1, 0, 4, 1};
        int[] values = {0, 0, 0, 0, 1, 0, 0, 1, 2, 0, 0, -9, 0, 2};
        Bench u = new Bench(23);
        u.plant("if and < a 1 not = b 2 + a -9 * c c");
        int[] sizes = {15, 8, 3, 1, 1, 4, 3, 1, 1, 3, 1, 1, 3, 1, 1};
        int[] above = {-1, 0, 1, 2, 2, 1, 5, 6, 6, 0, 9, 9, 0, 12, 12};
        for (int place = 0; place < codes.length; place++) {
            u.of(23).due("codeAt(" + place + ")", u.x.codeAt(0, place), codes[place]);
            u.of(24).due("valueAt(" + place + ")", u.x.valueAt(0, place), values[place]);
            u.of(25).due("sizeAt(" + place + ")", u.x.sizeAt(0, place), sizes[place]);
            u.of(26).due("above(" + place + ")", u.x.above(0, place), above[place]);
        }
    }

    private static void gives(Bench t, String nodes, int a, int b, int c, int due) {
        int tree = t.plant(nodes);
        t.due("what " + nodes + " gives for " + a + ", " + b + ", " + c, t.x.gives(tree, a, b, c), due);
        t.x.fell(tree);
    }

    private static void giving() {
        Bench t = new Bench(27);
        gives(t, "-42", 1, 2, 3, -42);
        gives(t, "a", 1, 2, 3, 1);
        gives(t, "b", 1, 2, 3, 2);
        gives(t, "c", 1, 2, 3, 3);
        gives(t, "+ a b", 99, 99, 0, 198);
        gives(t, "- a b", -99, 99, 0, -198);
        gives(t, "* a b", -99, 99, 0, -9801);
        gives(t, "/ a b", 7, 2, 0, 3);
        gives(t, "/ a b", -7, 2, 0, -3);
        gives(t, "/ a b", 7, -2, 0, -3);
        gives(t, "/ a b", -7, -2, 0, 3);
        gives(t, "/ a b", -7, 0, 0, -7);
        gives(t, "min a b", 3, -4, 0, -4);
        gives(t, "min a b", -4, 3, 0, -4);
        gives(t, "max a b", 3, -4, 0, 3);
        gives(t, "max a b", -4, 3, 0, 3);
        gives(t, "if < a b 1 2", 3, 4, 0, 1);
        gives(t, "if < a b 1 2", 4, 4, 0, 2);
        gives(t, "if < a b 1 2", 5, 4, 0, 2);
        gives(t, "if = a b 1 2", 4, 4, 0, 1);
        gives(t, "if = a b 1 2", 4, -4, 0, 2);
        gives(t, "if not = a b 1 2", 4, 4, 0, 2);
        gives(t, "if not = a b 1 2", 4, 5, 0, 1);
        gives(t, "if not not = a b 1 2", 4, 4, 0, 1);
        gives(t, "if not not = a b 1 2", 4, 5, 0, 2);
        for (int first = 0; first < 2; first++) {
            for (int second = 0; second < 2; second++) {
                gives(t, "if and = a 1 = b 1 1 0", first, second, 0, first & second);
                gives(t, "if or = a 1 = b 1 1 0", first, second, 0, first | second);
            }
        }
        gives(t, "* * a a a", 99, 0, 0, 9999);
        gives(t, "* * a a a", -99, 0, 0, -9999);
        gives(t, "- * * a a a 9", 99, 0, 0, 9990);
        gives(t, "* * * a a a * * a a a", 99, 0, 0, 9999);
        gives(t, "+ * 99 99 * 2 99", 0, 0, 0, 9999);
        gives(t, "+ * 99 99 * 1 99", 0, 0, 0, 9900);
        gives(t, "- * -99 99 * 3 99", 0, 0, 0, -9999);
        t.plant("a");
        for (int bad : new int[] {-100, 100, Integer.MIN_VALUE, Integer.MAX_VALUE}) {
            t.fails("a is " + bad, BAD, () -> t.x.gives(0, bad, 0, 0));
            t.fails("b is " + bad, BAD, () -> t.x.gives(0, 0, bad, 0));
            t.fails("c is " + bad, BAD, () -> t.x.gives(0, 0, 0, bad));
        }
    }

    private static void counting() {
        Bench t = new Bench(32);
        t.due("different() of none", t.x.different(), 0);
        t.plant("+ a 1");
        t.plant("+ a 1");
        t.plant("+ a 2");
        t.plant("a");
        t.plant("- a 1");
        t.plant("+ a 1");
        t.due("different()", t.x.different(), 4);
        Bench u = new Bench(33);
        u.plant("+ a * b 1");
        u.plant("+ a * b 2");
        u.plant("+ b * b 1");
        u.plant("- a * b 1");
        u.plant("+ a b");
        u.due("alike(0, 0)", u.x.alike(0, 0), 5);
        u.due("alike(0, 1)", u.x.alike(0, 1), 4);
        u.due("alike(0, 2)", u.x.alike(0, 2), 1);
        u.due("alike(2, 0)", u.x.alike(2, 0), 1);
        u.due("alike(0, 3)", u.x.alike(0, 3), 0);
        u.due("alike(0, 4)", u.x.alike(0, 4), 2);
        Bench m = new Bench(34);
        m.due("meanSize() of none", m.x.meanSize(), 0.0);
        m.plant("a");
        m.due("meanSize()", m.x.meanSize(), 1.0);
        m.plant("+ a b");
        m.plant("+ a b");
        m.due("meanSize()", m.x.meanSize(), 7.0 / 3.0);
        m.x.fell(0);
        m.due("meanSize()", m.x.meanSize(), 3.0);
    }

    // ---- 28 to 31

    private static void judging() {
        Bench t = new Bench(28);
        t.plant("+ a b");
        t.due("error() without CASES", t.x.error(0), 0);
        t.x.addCase(1, 2, 0, 3);
        t.x.addCase(1, 2, 0, 7);
        t.x.addCase(5, 6, 0, 1);
        t.due("error()", t.x.error(0), 0 + 4 + 10);
        t.of(29).due("merit()", t.x.merit(0), 14);
        Bench e = new Bench(28);
        e.plant("* 99 * 99 99");
        for (int number = 0; number < 12; number++) {
            e.x.addCase(0, 0, 0, -9999);
        }
        e.due("the greatest error()", e.x.error(0), 12 * 19998);
        Bench h = new Bench(30);
        h.plant("+ a b");
        h.due("hits() without CASES", h.x.hits(0), 0);
        h.x.addCase(1, 2, 0, 3);
        h.x.addCase(1, 2, 0, 4);
        h.x.addCase(-1, 1, 0, 0);
        h.due("hits()", h.x.hits(0), 2);
        Bench m = new Bench(29);
        m.plant("+ a b");
        m.x.addCase(1, 2, 0, 9);
        m.due("merit()", m.x.merit(0), 6);
        m.x.setWay(1, 4);
        m.due("merit() by 1", m.x.merit(0), 18);
        m.x.setWay(2, 4);
        m.due("merit() by 2", m.x.merit(0), 6);
        ranks();
    }

    private static String order(Bench t) {
        StringBuilder text = new StringBuilder();
        for (int rank = 0; rank < t.x.trees(); rank++) {
            text.append(t.x.ranked(rank)).append(' ');
        }
        return text.toString().trim();
    }

    private static void ranks() {
        Bench t = new Bench(31);
        t.fails("ranked(0) of none", NO_PLACE, () -> t.x.ranked(0));
        t.plant("+ 3 + 0 0");
        t.plant("9");
        t.plant("+ 1 2");
        t.plant("5");
        t.plant("3");
        t.x.addCase(0, 0, 0, 3);
        t.due("by ERROR, then by number", order(t), "0 2 4 3 1");
        t.x.setWay(2, 9);
        t.due("by ERROR, then by SIZE", order(t), "4 2 0 3 1");
        t.x.setWay(1, 1);
        t.due("by ERROR and SIZE, then by number", order(t), "4 2 3 0 1");
        for (int bad : FAR) {
            t.fails("ranked(" + bad + ")", NO_PLACE, () -> t.x.ranked(bad));
        }
        t.fails("ranked(5)", NO_PLACE, () -> t.x.ranked(5));
    }

    // ---- 39 to 42

    private static void whatWouldBe() {
        Bench t = new Bench(39);
        t.plant("if < a 1 + b 2 c");
        t.plant(Bench.deep(8));
        t.plant("* a b");
        t.x.addCase(0, 3, 4, 1);
        String before = t.state();
        t.due("errorCrossed()", t.x.errorCrossed(0, 4, 2, 0), 1);
        t.due("errorCrossed() of a CONDITION", t.x.errorCrossed(0, 1, 0, 1), 4);
        t.due("errorCrossed() of two types", t.x.errorCrossed(0, 1, 2, 0), -1);
        t.due("errorCrossed() of DEPTH 9", t.x.errorCrossed(0, 4, 1, 0), -1);
        t.due("errorCrossed() with itself", t.x.errorCrossed(0, 0, 0, 7), 3);
        t.due("nothing changed", t.state(), before);
        wrongPlaces(t, "errorCrossed", (tree, place) -> t.x.errorCrossed(tree, place, 1, 0));
        wrongPlaces(t, "errorCrossed with", (tree, place) -> t.x.errorCrossed(1, 0, tree, place));
        bestHoists();
        errorsBred();
        digests();
    }

    private static void bestHoists() {
        Bench t = new Bench(40);
        t.plant("if < a 1 + b 2 c");
        t.due("bestHoist() without CASES", t.x.bestHoist(0), 2);
        t.x.addCase(0, 3, 4, 5);
        t.due("the root and the SUM give 5", t.x.bestHoist(0), 4);
        t.x.addCase(5, 3, 4, 4);
        t.due("only the root gives 5 and 4", t.x.bestHoist(0), 0);
        String before = t.state();
        t.x.bestHoist(0);
        t.due("nothing changed", t.state(), before);
        // by ERROR, not by MERIT: WAY 1 with a great WEIGHT does not matter
        t.x.setWay(1, 99);
        t.due("not by MERIT", t.x.bestHoist(0), 0);
        Bench u = new Bench(40);
        u.plant("+ + a b a");
        u.x.addCase(4, 50, 0, 4);
        u.due("the smallest of the same SIZE", u.x.bestHoist(0), 2);
        u.plant("if = a b 9 9");
        u.x.addCase(0, 0, 0, 1);
        u.due("no CONDITION", u.x.bestHoist(1), 2);
    }

    private static void errorsBred() {
        Bench t = new Bench(41);
        t.fails("errorBred(1) of none", NOT_NOW, () -> t.x.errorBred(1));
        t.fails("errorBred(0) of none", BAD, () -> t.x.errorBred(0));
        t.plant("+ a 1");
        t.plant("* 2 b");
        t.plant("if < a b c 4");
        t.plant("max a c");
        for (int bad : new int[] {0, -1, 11, Integer.MIN_VALUE, Integer.MAX_VALUE}) {
            t.fails("errorBred(" + bad + ")", BAD, () -> t.x.errorBred(bad));
        }
        t.x.addCase(1, 2, 3, 9);
        t.x.addCase(4, -2, 7, 30);
        t.x.setChoosing(2, 0);
        for (int many = 1; many <= 10; many++) {
            t.tell(3, 1, 2, 0, 1, 2, 1, 75, 1, 1, 2, 150);
            t.x.setLuck(many * 777);
            String before = t.state();
            int would = t.x.errorBred(many);
            t.due("nothing changed", t.state(), before);
            t.due("errorBred(" + many + ")", would, t.x.breed(many));
        }
    }

    private static void digests() {
        Bench t = new Bench(42);
        t.due("digest() of a new one", t.x.digest(), digestOf(t.x));
        t.plant("+ a 1");
        t.plant("if < a b c -4");
        t.plant("+ a 1");
        t.x.addCase(1, 2, 3, 2);
        t.x.addCase(4, -2, 7, 30);
        t.tell(1, 2, 3, 4, 5, 6, 7, 8, 9, 10, 11, 12);
        t.x.setWay(1, 3);
        t.sketch("+ a");
        t.due("digest()", t.x.digest(), digestOf(t.x));
        t.x.setRates(100, 0, 0);
        t.x.breed(7);
        t.tell(5);
        t.due("digest() after breeding", t.x.digest(), digestOf(t.x));
        Bench u = new Bench(42);
        u.plant("if < a b c -4");
        u.plant("+ a 1");
        u.x.setRates(100, 0, 0);
        u.x.setChoosing(1, 1);
        u.tell(0, 0, 1, 1);
        u.x.breed(1);
        u.due("misses()", u.x.misses(), 1);
        u.due("digest() after a MISS", u.x.digest(), digestOf(u.x));
    }

    private static long digestOf(Barnacle x) {
        List<Integer> numbers = new ArrayList<>(List.of(x.sketched(), x.trees(), x.cases(), x.generations(),
                x.misses(), x.luck(), x.waiting(), x.different()));
        for (int tree = 0; tree < x.trees(); tree++) {
            numbers.addAll(List.of(x.size(tree), x.depth(tree), x.error(tree), x.merit(tree), x.hits(tree)));
            for (int place = 0; place < x.size(tree); place++) {
                numbers.add(x.codeAt(tree, place));
                numbers.add(x.valueAt(tree, place));
            }
        }
        for (int rank = 0; rank < x.trees(); rank++) {
            numbers.add(x.ranked(rank));
        }
        long d = 58042;
        for (int number : numbers) {
            d = d * 31 + number;
        }
        return d;
    }
}
