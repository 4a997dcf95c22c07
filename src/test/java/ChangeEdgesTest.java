/** The boundary cases of the points 3 and 5 of the Terms: CASES with what is BETTER by them, and CHANGES of a TREE. */
public final class ChangeEdgesTest {
    /** By code: a PLACE of the TREE with every code that has it. */
    private static final int[] PLACES_BY_CODE = {4, 3, 13, 14, 15, 18, 21, 23, 0, 2, 7, 1, 6, 5};
    private static final int[] FAR_FROM_INPUTS = {-100, 100, Integer.MIN_VALUE, Integer.MAX_VALUE};

    private ChangeEdgesTest() {
    }

    public static void main(String[] args) {
        Edges edges = new Edges("ChangeEdgesTest", args);
        cases(edges);
        changes(edges);
        simplifying(edges);
        edges.end();
    }

    private static void cases(Edges edges) {
        String three = "Terms 3";
        edges.test(three, "At most 12, numbered from 0", ChangeEdgesTest::atMostTwelve);
        edges.test(three, "each has three inputs, -99 to 99", ChangeEdgesTest::inputsOfCases);
        edges.test(three, "and what is due, -9999 to 9999", ChangeEdgesTest::dues);
        edges.test(three, "The ERROR of a TREE is the sum, over all CASES, of the difference, without sign", ChangeEdgesTest::errors);
        edges.test(three, "The WAY is 0 (at first), 1 or 2", ChangeEdgesTest::ways);
        edges.test(three, "with a WEIGHT of 0 to 99", ChangeEdgesTest::weights);
        edges.test(three, "but with 1 the ERROR and WEIGHT * SIZE together", ChangeEdgesTest::merits);
        edges.test(three, "A TREE is BETTER than another one, if its MERIT is less", ChangeEdgesTest::lessMerit);
        edges.test(three, "if both are the same, with 2, if its SIZE is less", ChangeEdgesTest::lessSize);
        edges.test(three, "otherwise if its number is smaller", ChangeEdgesTest::smallerNumber);
    }

    private static void changes(Edges edges) {
        String five = "Terms 5";
        edges.test(five, "CHANGES of a TREE must leave it a TREE that is allowed; otherwise nothing is done.",
                ChangeEdgesTest::tooLargeOrDeep);
        edges.test(five, "To CROSS a TREE at one of its PLACES with another one at one of its PLACES is to put, in place of "
                + "what is there, a copy of what is there in the other one", ChangeEdgesTest::crossedCopies);
        edges.test(five, "both must be of the same type", ChangeEdgesTest::crossedTypes);
        edges.test(five, "To HOIST it at a PLACE is to leave only what is there, which must be a NUMBER.", ChangeEdgesTest::hoisted);
        edges.test(five, "another one or its own again, that has just the same types beneath it and is of the same type "
                + "(0 and 1 have the same, too)", ChangeEdgesTest::recoded);
        edges.test(five, "with a value, if it has one", ChangeEdgesTest::recodedValues);
        edges.test(five, "To WITHER a PLACE is to put a CONSTANT in place of what is there, a NUMBER.", ChangeEdgesTest::withered);
    }

    private static void simplifying(Edges edges) {
        String five = "Terms 5";
        edges.test(five, "To SIMPLIFY is to go on, as long as one of these can be done anywhere", ChangeEdgesTest::goesOn);
        edges.test(five, "with the first PLACE, by numbers, at which one can, and there the first of these",
                ChangeEdgesTest::firstOfThese);
        edges.test(five, "(a) a NUMBER that has something beneath it, and beneath which there is no INPUT",
                ChangeEdgesTest::withoutInput);
        edges.test(five, "becomes a CONSTANT of what it gives, if that is -99 to 99", ChangeEdgesTest::foldedValues);
        edges.test(five, "(b) SUM and DIFFERENCE whose second one is the CONSTANT 0, PRODUCT and QUOTIENT whose second one is "
                + "the CONSTANT 1, become their first one", ChangeEdgesTest::secondOnes);
        edges.test(five, "(c) SUM whose first one is the CONSTANT 0, PRODUCT whose first one is the CONSTANT 1, become their "
                + "second one", ChangeEdgesTest::firstOnes);
        edges.test(five, "(d) DIFFERENCE of two that are the same becomes the CONSTANT 0", ChangeEdgesTest::sameTaken);
        edges.test(five, "(e) LESSER, GREATER and CHOICE (whatever its CONDITION) of two NUMBERS that are the same",
                ChangeEdgesTest::sameNumbers);
        edges.test(five, "and BOTH and EITHER of two CONDITIONS that are the same, become the first of these two",
                ChangeEdgesTest::sameConditions);
        edges.test(five, "(f) NOT of a NOT becomes what is beneath the second one", ChangeEdgesTest::notOfNot);
        edges.test(five, "(g) PRODUCT of which one is the CONSTANT 0 becomes the CONSTANT 0.", ChangeEdgesTest::timesNothing);
        edges.test(five, "(They are the same, if all their NODES are, with their values.)", ChangeEdgesTest::theSame);
    }

    // ---- point 3

    private static void atMostTwelve(Bench t) {
        t.due("cases() at first", t.x.cases(), 0);
        t.plant("0");
        for (int number = 0; number < 12; number++) {
            t.due("addCase()", t.x.addCase(0, 0, 0, 1 << number), number);
            t.due("cases()", t.x.cases(), number + 1);
            t.due("error() by all CASES", t.x.error(0), (2 << number) - 1);
        }
        t.refuses(Bench.NOT_NOW, "a 13th CASE", ChangeEdgesTest::twelve, x -> x.addCase(0, 0, 0, 0));
        t.takes("a 12th CASE", bench -> addCases(bench, 11), x -> x.addCase(0, 0, 0, 0));
    }

    private static void twelve(Bench t) {
        addCases(t, 12);
    }

    private static void addCases(Bench t, int many) {
        t.plant("+ * a b c");
        for (int number = 0; number < many; number++) {
            t.x.addCase(number, 2, -number, 7 * number);
        }
    }

    private static void inputsOfCases(Bench t) {
        for (int edge : new int[] {-99, -98, 98, 99}) {
            Bench made = t.fresh("a", "b", "c");
            made.x.addCase(edge, 0, 0, edge);
            made.x.addCase(0, edge, 0, edge);
            made.x.addCase(0, 0, edge, edge);
            for (int tree = 0; tree < 3; tree++) {
                t.due("hits() with an input of " + edge, made.x.hits(tree), 1);
            }
        }
        for (int far : FAR_FROM_INPUTS) {
            t.refuses(Bench.BAD, "an input 0 of " + far, Bench::fill, x -> x.addCase(far, 0, 0, 0));
            t.refuses(Bench.BAD, "an input 1 of " + far, Bench::fill, x -> x.addCase(0, far, 0, 0));
            t.refuses(Bench.BAD, "an input 2 of " + far, Bench::fill, x -> x.addCase(0, 0, far, 0));
        }
    }

    private static void dues(Bench t) {
        for (int due : new int[] {-9999, -9998, 0, 9998, 9999}) {
            Bench made = t.fresh("0");
            made.x.addCase(0, 0, 0, due);
            t.due("error() with " + due + " due", made.x.error(0), Math.abs(due));
        }
        for (int far : new int[] {-10000, 10000, Integer.MIN_VALUE, Integer.MAX_VALUE}) {
            t.refuses(Bench.BAD, far + " due", Bench::fill, x -> x.addCase(0, 0, 0, far));
        }
    }

    private static void errors(Bench t) {
        t.plant("a");
        t.due("error() of no CASE", t.x.error(0), 0);
        t.x.addCase(5, 0, 0, 5);
        t.due("error() of no difference", t.x.error(0), 0);
        t.x.addCase(5, 0, 0, 6);
        t.due("error() of one less", t.x.error(0), 1);
        t.x.addCase(5, 0, 0, 4);
        t.due("error() of one more", t.x.error(0), 2);
        t.x.addCase(-5, 0, 0, 5);
        t.due("error()", t.x.error(0), 12);
        Bench most = t.fresh("* 99 * 99 99", "* -99 * 99 99");
        for (int number = 0; number < 12; number++) {
            most.x.addCase(0, 0, 0, -9999);
        }
        t.due("the most that error() can be", most.x.error(0), 12 * 19998);
        t.due("the least", most.x.error(1), 0);
    }

    private static void ways(Bench t) {
        t.due("setWay()", t.x.setWay(2, 1), 0);
        t.due("setWay()", t.x.setWay(1, 1), 2);
        t.due("setWay()", t.x.setWay(0, 1), 1);
        t.due("setWay()", t.x.setWay(0, 1), 0);
        for (int way : new int[] {-1, 3, Integer.MIN_VALUE, Integer.MAX_VALUE}) {
            t.refuses(Bench.BAD, "the WAY " + way, Bench::fill, x -> x.setWay(way, 1));
        }
        // at first neither SIZE nor WEIGHT matters
        Bench first = t.fresh("+ 1 2", "3");
        first.x.addCase(0, 0, 0, 5);
        t.due("merit() at first", first.x.merit(0), 2);
        t.due("ranked() at first", first.x.ranked(0), 0);
    }

    private static void weights(Bench t) {
        Bench made = t.fresh("a", "+ a b", Bench.sized(40));
        int[] sizes = {1, 3, 40};
        for (int weight : new int[] {0, 1, 98, 99}) {
            made.x.setWay(1, weight);
            for (int tree = 0; tree < sizes.length; tree++) {
                t.due("merit() with a WEIGHT of " + weight, made.x.merit(tree), weight * sizes[tree]);
            }
        }
        for (int weight : new int[] {-1, 100, Integer.MIN_VALUE, Integer.MAX_VALUE}) {
            t.refuses(Bench.BAD, "a WEIGHT of " + weight, Bench::fill, x -> x.setWay(1, weight));
            t.refuses(Bench.BAD, "a WEIGHT of " + weight + " that is no matter", Bench::fill, x -> x.setWay(0, weight));
        }
    }

    private static void merits(Bench t) {
        Bench made = t.fresh("+ 1 2");
        made.x.addCase(0, 0, 0, 10);
        int[] dues = {7, 7 + 5 * 3, 7};
        for (int way = 0; way <= 2; way++) {
            made.x.setWay(way, 5);
            t.due("merit() by the WAY " + way, made.x.merit(0), dues[way]);
            t.due("error() by the WAY " + way, made.x.error(0), 7);
        }
    }

    private static String order(Bench t) {
        StringBuilder text = new StringBuilder();
        for (int rank = 0; rank < t.x.trees(); rank++) {
            text.append(t.x.ranked(rank)).append(' ');
        }
        return text.toString().trim();
    }

    private static void lessMerit(Bench t) {
        // the first one is larger and its MERIT is one more, or one less
        for (int due : new int[] {0, 20}) {
            Bench made = t.fresh("+ 5 6", "10");
            made.x.addCase(0, 0, 0, due);
            for (int way : new int[] {0, 2}) {
                made.x.setWay(way, 1);
                t.due("the order by the WAY " + way + ", " + due + " due", order(made), due == 0 ? "1 0" : "0 1");
            }
        }
        // SIZE 3 and 1, with an ERROR that is 3 less: by a WEIGHT of 1 it is better, by 2 it is not
        Bench weighed = t.fresh("7", "+ 5 5");
        weighed.x.addCase(0, 0, 0, 10);
        for (int weight : new int[] {1, 2}) {
            weighed.x.setWay(1, weight);
            t.due("the order by a WEIGHT of " + weight, order(weighed), weight == 1 ? "1 0" : "0 1");
        }
    }

    private static void lessSize(Bench t) {
        // the same ERROR, and a SIZE that is one less
        Bench made = t.fresh("if not < 1 2 3 4", "if < 1 2 4 3", "4");
        String[] dues = {"0 1 2", "2 1 0", "2 1 0"};
        for (int way = 0; way <= 2; way++) {
            made.x.setWay(way, 1);
            t.due("the order by the WAY " + way, order(made), dues[way]);
        }
        made.x.setWay(1, 0);
        t.due("the order by the WAY 1, with a WEIGHT of 0", order(made), "0 1 2");
        // the MERIT is asked ahead of the SIZE
        made.x.addCase(0, 0, 0, 4);
        made.x.recode(0, 5, 0, 5);
        made.x.recode(1, 4, 0, 3);
        made.x.setWay(2, 1);
        t.due("the order by another MERIT", order(made), "2 0 1");
    }

    private static void smallerNumber(Bench t) {
        Bench made = t.fresh("+ 1 2", "3", "+ 2 1", "3");
        String[] dues = {"0 1 2 3", "1 3 0 2", "1 3 0 2"};
        for (int way = 0; way <= 2; way++) {
            made.x.setWay(way, 1);
            t.due("the order by the WAY " + way, order(made), dues[way]);
        }
        made.x.fell(0);
        t.due("the order without the first one", order(made), "0 2 1");
        Bench full = t.fresh();
        for (int tree = 0; tree < 16; tree++) {
            full.plant("8");
        }
        t.due("the order of 16 that are the same", order(full), "0 1 2 3 4 5 6 7 8 9 10 11 12 13 14 15");
    }

    // ---- point 5: CHANGES

    private static void large(Bench t, int size) {
        t.plant("+ + a + a b " + Bench.sized(size - 6));
        t.plant("if < a b a b");
    }

    private static void deep(Bench t) {
        t.plant(Bench.deep(8));
        t.plant("+ + + + + + + a b b b b b b b");
        t.plant("+ a + a + a + a + a if < a b c c");
        t.plant("+ a b");
        t.plant("if not < a b c c");
    }

    private static void tooLargeOrDeep(Bench t) {
        Bench fits = t.fresh();
        large(fits, 39);
        t.due("cross() to a SIZE of 40", fits.x.cross(0, 1, 1, 0), 40);
        t.denies("cross() to a SIZE of 41", bench -> large(bench, 40), x -> x.cross(0, 1, 1, 0));
        t.denies("cross() to a SIZE of 79", bench -> large(bench, 40), x -> x.cross(0, 2, 0, 0));
        t.denies("cross() at the last leaf, to 45", bench -> large(bench, 40), x -> x.cross(0, 39, 1, 0));
        Bench deep = t.fresh();
        deep(deep);
        t.due("cross() to a DEPTH of 8", deep.x.cross(0, 12, 3, 0), 15);
        t.due("depth()", deep.x.depth(0), 8);
        t.due("cross() to a DEPTH of 8 on the left", deep.x.cross(1, 6, 3, 0), 15);
        t.due("depth()", deep.x.depth(1), 8);
        t.due("cross() of a CONDITION to a DEPTH of 8", deep.x.cross(2, 11, 4, 2), 16);
        t.due("depth()", deep.x.depth(2), 8);
        t.denies("cross() to a DEPTH of 9", ChangeEdgesTest::deep, x -> x.cross(0, 14, 3, 0));
        t.denies("cross() to a DEPTH of 9 on the left", ChangeEdgesTest::deep, x -> x.cross(1, 7, 3, 0));
        t.denies("cross() of a CONDITION to a DEPTH of 9", ChangeEdgesTest::deep, x -> x.cross(2, 11, 4, 1));
        t.denies("cross() of a TREE with itself to a DEPTH of 9", ChangeEdgesTest::deep, x -> x.cross(0, 1, 0, 0));
        t.due("cross() of a TREE with itself to a DEPTH of 8", t.fresh(Bench.deep(8)).x.cross(0, 1, 0, 2), 27);
    }

    private static void crossed(Bench t, int place, int other, int otherPlace, String due) {
        Bench made = t.fresh("if < a 1 + b 2 c", "* 3 if = b c 4 5");
        String kept = made.read(1);
        t.due("cross()", made.x.cross(0, place, other, otherPlace), due.split(" ").length);
        t.due("the TREE", made.read(0), due);
        t.due("the other one", made.read(1), kept);
    }

    private static void crossedCopies(Bench t) {
        crossed(t, 0, 1, 0, "* 3 if = b c 4 5");
        crossed(t, 0, 1, 7, "5");
        crossed(t, 7, 1, 7, "if < a 1 + b 2 5");
        crossed(t, 7, 1, 0, "if < a 1 + b 2 * 3 if = b c 4 5");
        crossed(t, 1, 1, 3, "if = b c + b 2 c");
        crossed(t, 4, 1, 1, "if < a 1 3 c");
        crossed(t, 0, 0, 0, "if < a 1 + b 2 c");
        crossed(t, 0, 0, 4, "+ b 2");
        crossed(t, 5, 0, 0, "if < a 1 + if < a 1 + b 2 c 2 c");
        crossed(t, 4, 0, 7, "if < a 1 c c");
        // it is a copy: what becomes of the other one then is its own
        Bench made = t.fresh("+ a b", "* c 1");
        made.x.cross(0, 1, 1, 0);
        made.x.recode(1, 2, 0, 9);
        made.x.recode(0, 2, 1, 1);
        t.due("the TREE", made.read(0), "+ * b 1 b");
        t.due("the other one", made.read(1), "* c 9");
    }

    private static void crossedTypes(Bench t) {
        // CONDITIONS are at 1 of the TREE 0, and at 3 and 4 of the TREE 2
        for (int place = 0; place < 8; place++) {
            for (int otherPlace = 0; otherPlace < 9; otherPlace++) {
                int here = place;
                int there = otherPlace;
                if ((here == 1) != (there == 3 || there == 4)) {
                    t.denies("cross() at " + here + " with " + there, Bench::fill, x -> x.cross(0, here, 2, there));
                }
            }
        }
        Bench made = t.fresh("if < a 1 + b 2 c", "* b if not = a b 2 c");
        t.due("cross() of two NUMBERS", made.x.cross(0, 2, 1, 5), 8);
        t.due("cross() of two CONDITIONS", made.x.cross(0, 1, 1, 3), 9);
        t.due("cross() of a CONDITION with one beneath it", made.x.cross(0, 1, 0, 2), 8);
    }

    private static void hoisted(Bench t) {
        String[] dues = {"if < a 1 + b 2 c", "", "a", "1", "+ b 2", "b", "2", "c"};
        for (int place = 0; place < dues.length; place++) {
            int here = place;
            if (place == 1) {
                t.denies("hoist() at a CONDITION", Bench::fill, x -> x.hoist(0, here));
                continue;
            }
            Bench made = t.fresh("if < a 1 + b 2 c");
            t.due("hoist() at " + place, made.x.hoist(0, place), dues[place].split(" ").length);
            t.due("the TREE", made.read(0), dues[place]);
        }
        t.denies("hoist() at NOT", Bench::fill, x -> x.hoist(2, 3));
        t.denies("hoist() at what is beneath NOT", Bench::fill, x -> x.hoist(2, 4));
        t.due("hoist() of a leaf at its root", t.fresh("7").x.hoist(0, 0), 1);
    }

    private static void everyCode(Bench t) {
        t.plant("if and < a 1 not or = b 2 < 1 c + - * a b / 4 3 min 1 max 5 c 9");
    }

    private static void recoded(Bench t) {
        String[] kins = {"0 1", "2 3 4 5 6 7", "8", "9 10", "11 12", "13"};
        Bench all = t.fresh();
        everyCode(all);
        int size = all.x.size(0);
        for (int old = 0; old <= 13; old++) {
            int place = PLACES_BY_CODE[old];
            for (int code = 0; code <= 13; code++) {
                int next = code;
                if (sameKin(kins, old, code)) {
                    t.due("recode() of " + old + " to " + code, all.x.recode(0, place, code, 1), old);
                    t.due("codeAt()", all.x.codeAt(0, place), code);
                    t.due("recode() back", all.x.recode(0, place, old, 2), code);
                } else {
                    t.denies("recode() of " + old + " to " + code, ChangeEdgesTest::everyCode,
                            x -> x.recode(0, place, next, 1));
                }
            }
        }
        t.due("size()", all.x.size(0), size);
    }

    private static boolean sameKin(String[] kins, int code, int other) {
        for (String kin : kins) {
            String codes = " " + kin + " ";
            if (codes.contains(" " + code + " ")) {
                return codes.contains(" " + other + " ");
            }
        }
        return false;
    }

    private static void recodedValues(Bench t) {
        Bench made = t.fresh("+ a 5");
        int[][] leaves = {{0, -99}, {0, 99}, {1, 0}, {1, 2}, {0, 0}, {0, -1}, {1, 1}, {1, 1}};
        for (int[] leaf : leaves) {
            made.x.recode(0, 2, leaf[0], leaf[1]);
            t.due("codeAt()", made.x.codeAt(0, 2), leaf[0]);
            t.due("valueAt()", made.x.valueAt(0, 2), leaf[1]);
        }
        t.due("recode() with a value that is not looked at", made.x.recode(0, 0, 3, 1000), 2);
        t.due("valueAt() of a code without a value", made.x.valueAt(0, 0), 0);
        t.due("recode() with the least value that is not looked at", made.x.recode(0, 0, 7, Integer.MIN_VALUE), 3);
        t.due("valueAt() of a code without a value", made.x.valueAt(0, 0), 0);
    }

    private static void withered(Bench t) {
        String[] dues = {"9", "", "if < 9 1 + b 2 c", "if < a 9 + b 2 c", "if < a 1 9 c", "if < a 1 + 9 2 c",
            "if < a 1 + b 9 c", "if < a 1 + b 2 9"};
        for (int place = 0; place < dues.length; place++) {
            int here = place;
            if (place == 1) {
                t.denies("wither() at a CONDITION", Bench::fill, x -> x.wither(0, here, 9));
                continue;
            }
            Bench made = t.fresh("if < a 1 + b 2 c");
            t.due("wither() at " + place, made.x.wither(0, place, 9), dues[place].split(" ").length);
            t.due("the TREE", made.read(0), dues[place]);
        }
        t.denies("wither() at NOT", Bench::fill, x -> x.wither(2, 3, 9));
        t.due("wither() of a CONSTANT", t.fresh("7").x.wither(0, 0, -7), 1);
    }

    // ---- point 5: to SIMPLIFY

    private static void becomes(Bench t, String nodes, String due) {
        Bench made = t.fresh("b", nodes, "+ 1 1");
        int less = nodes.split(" ").length - due.split(" ").length;
        t.due("simplify() of " + nodes, made.x.simplify(1), less);
        t.due("what " + nodes + " becomes", made.read(1), due);
        t.due("simplify() of " + due, made.x.simplify(1), 0);
        t.due("the others", made.read(0) + ", " + made.read(2), "b, + 1 1");
    }

    private static void stays(Bench t, String nodes) {
        becomes(t, nodes, nodes);
    }

    private static void goesOn(Bench t) {
        stays(t, "a");
        stays(t, "+ a b");
        becomes(t, "+ a + 0 0", "a");
        becomes(t, "+ a * b - c c", "a");
        becomes(t, "* a / + b 1 + b - 2 1", "* a / + b 1 + b 1");
        becomes(t, "if < + 1 1 * a 1 + b 0 - b 0", "b");
        becomes(t, "min + a - 3 3 max a + 0 a", "a");
        becomes(t, "if and not not < a b < a + b 0 c * 1 c", "c");
        becomes(t, "+ + + + + + + 0 0 0 0 0 0 0 a", "a");
        becomes(t, "+ a + a + a + a + a + a + a 0", "+ a + a + a + a + a + a a");
        // the first PLACE and the last one
        becomes(t, "+ + a b 0", "+ a b");
        becomes(t, "+ a + b + c 0", "+ a + b c");
    }

    /** Whatever is taken first, the same comes of it; here (a) stands ahead of the others at the same PLACE. */
    private static void firstOfThese(Bench t) {
        becomes(t, "+ 5 0", "5");
        becomes(t, "- 5 5", "0");
        becomes(t, "* 1 1", "1");
        becomes(t, "* 0 1", "0");
        becomes(t, "* 1 0", "0");
        becomes(t, "- * 50 50 0", "* 50 50");
        becomes(t, "* * 50 50 0", "0");
        becomes(t, "* 1 * 50 50", "* 50 50");
        becomes(t, "if < a b + 1 1 + 1 1", "2");
        becomes(t, "if < 1 2 a a", "a");
        becomes(t, "+ 0 * 1 a", "a");
        becomes(t, "- + 0 a + 0 a", "0");
    }

    private static void withoutInput(Bench t) {
        stays(t, "7");
        stays(t, "0");
        becomes(t, "+ 1 2", "3");
        stays(t, "+ a 2");
        stays(t, "+ 2 a");
        becomes(t, "+ a + 1 2", "+ a 3");
        stays(t, "+ 1 + 2 + 3 c");
        becomes(t, "if < 1 2 3 4", "3");
        stays(t, "if < a 2 3 4");
        stays(t, "if < 1 b 3 4");
        stays(t, "if < 1 2 3 c");
        stays(t, "if < 1 2 a 4");
        // a CONDITION without an INPUT is no NUMBER; NUMBERS beneath it are
        stays(t, "if < 1 2 a b");
        becomes(t, "if < + 1 1 2 a b", "if < 2 2 a b");
    }

    private static void foldedValues(Bench t) {
        becomes(t, "+ 50 48", "98");
        becomes(t, "+ 50 49", "99");
        stays(t, "+ 50 50");
        becomes(t, "- -50 48", "-98");
        becomes(t, "- -50 49", "-99");
        stays(t, "- -50 50");
        becomes(t, "* 9 11", "99");
        stays(t, "* 10 10");
        becomes(t, "* 9 -11", "-99");
        stays(t, "* 10 -10");
        becomes(t, "/ 99 0", "99");
        becomes(t, "max -99 99", "99");
        // the whole can be -99 to 99 where a part is not
        becomes(t, "- + 50 50 1", "99");
        stays(t, "- + 50 50 -1");
        becomes(t, "- * * 99 99 2 * 99 + 99 9", "0");
        becomes(t, "+ a - * 99 99 * 99 98", "+ a 99");
        becomes(t, "+ a + 50 * 7 7", "+ a 99");
        becomes(t, "+ a + 50 * 5 10", "+ a + 50 50");
    }

    private static void secondOnes(Bench t) {
        String[] nodes = {"+ b 0", "- b 0", "* b 1", "/ b 1", "+ + b c 0", "/ if < a b b c 1"};
        for (String whole : nodes) {
            becomes(t, whole, whole.substring(2, whole.length() - 2));
        }
        for (String near : new String[] {"+ b 1", "+ b -1", "- b 1", "- b -1", "* b 2", "* b -1", "/ b 2", "/ b -1", "/ b 0",
            "min b 0", "max b 0", "min b 1", "max b 1"}) {
            stays(t, near);
        }
        // the INPUTS 0 and 1 are no CONSTANTS
        for (String near : new String[] {"+ c a", "- c a", "* c b", "/ c b"}) {
            stays(t, near);
        }
    }

    private static void firstOnes(Bench t) {
        becomes(t, "+ 0 b", "b");
        becomes(t, "* 1 b", "b");
        becomes(t, "+ 0 + b c", "+ b c");
        becomes(t, "* 1 if < a b b c", "if < a b b c");
        for (String near : new String[] {"- 0 b", "/ 1 b", "/ 0 b", "+ 1 b", "+ -1 b", "* -1 b", "* 2 b", "min 0 b", "max 1 b",
            "- 1 b"}) {
            stays(t, near);
        }
        for (String near : new String[] {"+ a c", "* b c"}) {
            stays(t, near);
        }
    }

    private static void sameTaken(Bench t) {
        becomes(t, "- a a", "0");
        becomes(t, "- + a 1 + a 1", "0");
        becomes(t, "- " + Bench.sized(19) + " " + Bench.sized(19), "0");
        for (String near : new String[] {"- a b", "- + a 1 + a 2", "- + a b + b a", "- + a b - a b", "- a + a b", "- + a b a",
            "/ a a", "+ a a", "* a a"}) {
            stays(t, near);
        }
    }

    private static void sameNumbers(Bench t) {
        becomes(t, "min a a", "a");
        becomes(t, "max a a", "a");
        becomes(t, "if < a b c c", "c");
        becomes(t, "min + a 1 + a 1", "+ a 1");
        becomes(t, "max * 50 50 * 50 50", "* 50 50");
        becomes(t, "if and < a b not = b c + a b + a b", "+ a b");
        becomes(t, "if < 1 2 + a b + a b", "+ a b");
        for (String near : new String[] {"min a b", "max a b", "if < a b c b", "min + a 1 + a 2", "max + a b + b a",
            "if < a a b c", "if < a b a 1", "if < a b + a b + a c", "if = c c b c"}) {
            stays(t, near);
        }
    }

    private static void sameConditions(Bench t) {
        becomes(t, "if and < a b < a b a b", "if < a b a b");
        becomes(t, "if or = a b = a b a b", "if = a b a b");
        becomes(t, "if and not < a b not < a b a b", "if not < a b a b");
        becomes(t, "if or and < a b = b c and < a b = b c a b", "if and < a b = b c a b");
        for (String near : new String[] {"if and < a b < b a a b", "if or < a b = a b a b", "if and < a 1 < a 2 a b",
            "if or < a 1 < a b a b", "if and < a b not < a b a b", "if = + a b + a b a b", "if < c c a b"}) {
            stays(t, near);
        }
    }

    private static void notOfNot(Bench t) {
        stays(t, "if not < a b a b");
        becomes(t, "if not not < a b a b", "if < a b a b");
        becomes(t, "if not not not < a b a b", "if not < a b a b");
        becomes(t, "if not not not not < a b a b", "if < a b a b");
        becomes(t, "if not not and < a b = b c a b", "if and < a b = b c a b");
        stays(t, "if not and not < a b not = b c a b");
    }

    private static void timesNothing(Bench t) {
        becomes(t, "* a 0", "0");
        becomes(t, "* 0 a", "0");
        becomes(t, "* + a b 0", "0");
        becomes(t, "* 0 if < a b b c", "0");
        becomes(t, "+ b * 0 c", "b");
        for (String near : new String[] {"/ a 0", "/ 0 a", "- 0 a", "min 0 a", "max a 0", "* a -1", "* -1 a", "* c a", "* a c"}) {
            stays(t, near);
        }
    }

    private static void theSame(Bench t) {
        // they differ by the value of the first leaf, or the last; by one code; by what is beneath
        for (String near : new String[] {"- + 1 + a b + 2 + a b", "- + a + b 1 + a + b 2", "- + a b + a c", "- + a b * a b",
            "- + b 1 + b b", "- if < a b 1 2 if = a b 1 2", "- + a + b c + + a b c", "max + a 5 + a -5",
            "if < a b + 1 c + 2 c"}) {
            stays(t, near);
        }
        becomes(t, "- if < a b 1 2 if < a b 1 2", "0");
        becomes(t, "max + + a -5 c + + a -5 c", "+ + a -5 c");
    }
}
