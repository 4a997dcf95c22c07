import java.util.Arrays;

/** The boundary cases of the points 4 and 6 of the Terms: DRAWS, and BREEDING by them. */
public final class BreedEdgesTest {
    /** How many draws one leaf takes with a TOURNAMENT of 1, by what becomes of it. */
    private static final int CROSSED = 5;
    private static final int CHANGED = 4;
    private static final int HOISTED = 3;
    private static final int AS_IT_WAS = 2;

    private BreedEdgesTest() {
    }

    public static void main(String[] args) {
        Edges edges = new Edges("BreedEdgesTest", args);
        draws(edges);
        settings(edges);
        generations(edges);
        kinds(edges);
        misses(edges);
        edges.end();
    }

    private static void draws(Edges edges) {
        String four = "Terms 4";
        edges.test(four, "Numbers can be TOLD, one behind the other, at most 40 that wait.", BreedEdgesTest::fortyWait);
        edges.test(four, "To draw below n, also below 1, is to take the first one that waits (it waits no more)",
                BreedEdgesTest::belowOne);
        edges.test(four, "and of it what is left by n", BreedEdgesTest::whatIsLeft);
        edges.test(four, "if none waits, LUCK", BreedEdgesTest::noneWaits);
        edges.test(four, "0 to 9999 (0, at first)", BreedEdgesTest::luckAtFirst);
        edges.test(four, "becomes (LUCK * 4621 + 2777) % 10000", BreedEdgesTest::nextLuck);
        edges.test(four, "and it is (LUCK * n) / 10000.", BreedEdgesTest::drawnByLuck);
    }

    private static void settings(Edges edges) {
        String six = "Terms 6";
        edges.test(six, "each 0 to 100, together no more than 100", BreedEdgesTest::rates);
        edges.test(six, "(70, 20 and 5, at first)", BreedEdgesTest::firstRates);
        edges.test(six, "the TOURNAMENT has 1 to 5", BreedEdgesTest::tournament);
        edges.test(six, "1 to 5 (2, at first)", BreedEdgesTest::firstTournament);
        edges.test(six, "the ELITE is 0 to 4", BreedEdgesTest::elite);
        edges.test(six, "0 to 4 (1, at first)", BreedEdgesTest::firstElite);
    }

    private static void generations(Edges edges) {
        String six = "Terms 6";
        edges.test(six, "To breed a generation is to make, with n TREES in the GROVE, n new ones out of the old ones",
                BreedEdgesTest::asManyAsThereAre);
        edges.test(six, "first copies of the ELITE best ones (no more than n)", BreedEdgesTest::eliteOfAll);
        edges.test(six, "the best one first", BreedEdgesTest::bestFirst);
        edges.test(six, "r is drawn below 100.", BreedEdgesTest::belowHundred);
        edges.test(six, "as often as the TOURNAMENT tells a number below n is drawn", BreedEdgesTest::asOftenAsTold);
        edges.test(six, "and the best one of these TREES is it.", BreedEdgesTest::bestOfThese);
        edges.test(six, "Then the new ones are the GROVE.", BreedEdgesTest::newOnes);
    }

    private static void kinds(Edges edges) {
        String six = "Terms 6";
        edges.test(six, "If r is below CROSSING", BreedEdgesTest::belowCrossing);
        edges.test(six, "another one is CHOSEN (maybe the same TREE)", BreedEdgesTest::anotherOne);
        edges.test(six, "then a PLACE of the first one is drawn (below its SIZE)", BreedEdgesTest::crossedPlaces);
        edges.test(six, "then one of those PLACES of the other one that are of the same type, by their numbers (below how many "
                + "there are", BreedEdgesTest::placesOfSameType);
        edges.test(six, "if there are none, nothing is drawn", BreedEdgesTest::nothingDrawn);
        edges.test(six, "Otherwise, if r is below CROSSING + CHANGING, a PLACE is drawn (below its SIZE)",
                BreedEdgesTest::belowChanging);
        edges.test(six, "if it is a CONSTANT, its value becomes a number drawn below 199, less 99", BreedEdgesTest::newConstants);
        edges.test(six, "if it is an INPUT, its value is drawn below 3", BreedEdgesTest::newInputs);
        edges.test(six, "otherwise it is RECODED with one of all codes that are possible there, its own one, too, by their "
                + "numbers, drawn below how many there are.", BreedEdgesTest::newCodes);
        edges.test(six, "Otherwise, if r is below CROSSING + CHANGING + HOISTING", BreedEdgesTest::belowHoisting);
        edges.test(six, "one of its PLACES that are NUMBERS is drawn, by their numbers (below how many there are), and it is "
                + "HOISTED there.", BreedEdgesTest::hoistedPlaces);
        edges.test(six, "Otherwise it is as it was.", BreedEdgesTest::asItWas);
    }

    private static void misses(Edges edges) {
        String six = "Terms 6";
        edges.test(six, "What is not allowed", BreedEdgesTest::notAllowed);
        edges.test(six, "or finds no PLACE in the other one", BreedEdgesTest::noPlaceThere);
        edges.test(six, "leaves a copy of the one that was CHOSEN first, and is counted as a MISS", BreedEdgesTest::copyOfFirst);
        edges.test(six, "(copies of the ELITE, and one that is as it was, are not)", BreedEdgesTest::noMisses);
    }

    // ---- helpers

    /** With a TOURNAMENT of 1 and no ELITE, so that the fewest numbers are drawn, for every TREE alike. */
    private static Bench plain(Bench t, int crossing, int changing, int hoisting, String... trees) {
        Bench made = t.fresh(trees);
        made.x.setRates(crossing, changing, hoisting);
        made.x.setChoosing(1, 0);
        return made;
    }

    /** Breeds one generation by just these draws. */
    private static void breedBy(Bench made, int... told) {
        int luck = made.x.luck();
        made.tell(told);
        made.x.breed(1);
        made.due("waiting() behind the draws", made.x.waiting(), 0);
        made.due("luck() behind the draws", made.x.luck(), luck);
    }

    private static String all(Bench made) {
        StringBuilder text = new StringBuilder();
        for (int tree = 0; tree < made.x.trees(); tree++) {
            text.append(tree == 0 ? "" : ", ").append(made.read(tree));
        }
        return text.toString();
    }

    private static String[] constants(int many) {
        String[] trees = new String[many];
        for (int tree = 0; tree < many; tree++) {
            trees[tree] = "" + tree;
        }
        return trees;
    }

    private static int after(int luck) {
        return (luck * 4621 + 2777) % 10000;
    }

    private static int after(int luck, int draws) {
        return draws == 0 ? luck : after(after(luck), draws - 1);
    }

    /** Which LUCK becomes this one. */
    private static int ahead(int luck) {
        int found = 0;
        while (after(found) != luck) {
            found++;
        }
        return found;
    }

    // ---- point 4: DRAWS

    private static void fortyWait(Bench t) {
        for (int waiting = 1; waiting <= 40; waiting++) {
            t.due("tell()", t.x.tell(waiting), waiting);
        }
        t.refuses(Bench.NOT_NOW, "a 41st", bench -> fortyTold(bench), x -> x.tell(0));
        // three leaves take six draws; then six more can wait, and they come behind the others
        Bench made = plain(t, 0, 0, 0, "a", "b", "c");
        int[] told = new int[46];
        for (int index = 0; index < told.length; index++) {
            told[index] = index * 7 + index / 5;
        }
        made.tell(Arrays.copyOf(told, 40));
        made.x.breed(1);
        made.due("waiting()", made.x.waiting(), 34);
        for (int index = 40; index < 46; index++) {
            made.due("tell()", made.x.tell(told[index]), index - 5);
        }
        made.due("whether a 41st is taken", takes(made, 0), false);
        made.x.breed(6);
        made.due("waiting()", made.x.waiting(), 4);
        made.due("what is bred by them in their order", all(made), leavesBy(told, 7));
        made.x.breed(1);
        made.due("waiting()", made.x.waiting(), 0);
    }

    private static void fortyTold(Bench t) {
        t.fill();
        for (int waiting = 3; waiting < 40; waiting++) {
            t.x.tell(waiting * 13);
        }
    }

    private static boolean takes(Bench made, int number) {
        try {
            made.x.tell(number);
            return true;
        } catch (IllegalStateException e) {
            return false;
        }
    }

    /** What three leaves become if each is as it was, by a number that is drawn behind its r. */
    private static String leavesBy(int[] told, int generations) {
        String leaves = "abc";
        for (int generation = 0; generation < generations; generation++) {
            StringBuilder next = new StringBuilder();
            for (int tree = 0; tree < 3; tree++) {
                next.append(leaves.charAt(told[6 * generation + 2 * tree + 1] % 3));
            }
            leaves = next.toString();
        }
        return String.join(", ", leaves.split(""));
    }

    private static void belowOne(Bench t) {
        // with one leaf all but r are drawn below 1
        Bench made = plain(t, 100, 0, 0, "a");
        made.tell(1, 2, 3, 4, 5, 6);
        made.x.breed(1);
        made.due("waiting() of TOLD ones", made.x.waiting(), 1);
        Bench lucky = plain(t, 100, 0, 0, "a");
        lucky.x.breed(1);
        lucky.due("luck() behind five draws", lucky.x.luck(), after(0, 5));
        Bench choice = plain(t, 0, 100, 0, "if not < a 1 b c");
        breedBy(choice, 0, 0, 0, 5);
        choice.due("a CHOICE RECODED below 1", all(choice), "if not < a 1 b c");
        breedBy(choice, 0, 0, 1, 9);
        choice.due("NOT RECODED below 1", all(choice), "if not < a 1 b c");
    }

    private static void whatIsLeft(Bench t) {
        int[] told = {0, 1, 2, 3, 4, 5, 299, 300, 301, Integer.MAX_VALUE - 1, Integer.MAX_VALUE};
        for (int number : told) {
            Bench made = plain(t, 0, 0, 0, "0", "1", "2");
            breedBy(made, 0, number, 0, 0, 0, 0);
            made.due("what is drawn below 3 by " + number, made.read(0), "" + number % 3);
        }
    }

    private static void noneWaits(Bench t) {
        // two draws: 0, 1 or 2 of them TOLD
        for (int told = 0; told <= 3; told++) {
            Bench made = plain(t, 0, 0, 0, "a");
            made.tell(new int[told]);
            made.x.breed(1);
            made.due("waiting() of " + told, made.x.waiting(), Math.max(0, told - 2));
            made.due("luck() with " + told + " TOLD", made.x.luck(), after(0, Math.max(0, 2 - told)));
        }
    }

    private static void luckAtFirst(Bench t) {
        t.due("luck()", t.x.luck(), 0);
        t.due("setLuck(0)", t.x.setLuck(0), 0);
        t.due("setLuck(9999)", t.x.setLuck(9999), 0);
        t.due("luck()", t.x.luck(), 9999);
        t.due("setLuck(9998)", t.x.setLuck(9998), 9999);
        for (int luck : new int[] {-1, 10000, Integer.MIN_VALUE, Integer.MAX_VALUE}) {
            t.refuses(Bench.BAD, "a LUCK of " + luck, Bench::fill, x -> x.setLuck(luck));
        }
    }

    /** One draw of two is TOLD, so that LUCK is drawn from once. */
    private static Bench once(Bench made, int luck) {
        made.x.setLuck(luck);
        made.tell(0);
        made.x.breed(1);
        return made;
    }

    private static void nextLuck(Bench t) {
        t.due("luck() behind 0", once(plain(t, 0, 0, 0, "a"), 0).x.luck(), 2777);
        t.due("luck() behind 9999", once(plain(t, 0, 0, 0, "a"), 9999).x.luck(), 8156);
        t.due("luck() behind 1", once(plain(t, 0, 0, 0, "a"), 1).x.luck(), 7398);
        for (int luck : new int[] {0, 1, 9998, 9999}) {
            t.due("luck()", once(plain(t, 0, 0, 0, "a"), ahead(luck)).x.luck(), luck);
        }
    }

    private static void drawnByLuck(Bench t) {
        // below 16: each step is 625
        int[] lucks = {0, 624, 625, 1249, 1250, 9374, 9375, 9999};
        int[] drawn = {0, 0, 1, 1, 2, 14, 15, 15};
        for (int index = 0; index < lucks.length; index++) {
            Bench made = once(plain(t, 0, 0, 0, constants(16)), ahead(lucks[index]));
            t.due("what is drawn below 16 by " + lucks[index], made.read(0), "" + drawn[index]);
        }
        // below 199
        int[] more = {0, 50, 51, 9949, 9950, 9999};
        int[] values = {-99, -99, -98, 98, 99, 99};
        for (int index = 0; index < more.length; index++) {
            Bench made = plain(t, 0, 100, 0, "7");
            made.x.setLuck(ahead(more[index]));
            made.tell(0, 0, 0);
            made.x.breed(1);
            t.due("what is drawn below 199 by " + more[index], made.read(0), "" + values[index]);
        }
        // below 100: 6999 is still CROSSING
        for (int luck : new int[] {6999, 7000}) {
            Bench made = plain(t, 70, 0, 0, "a");
            made.x.setLuck(ahead(luck));
            made.x.breed(1);
            t.due("luck() with r by " + luck, made.x.luck(), after(luck, luck == 6999 ? 4 : 1));
        }
        // below 1 it is 0, whatever LUCK is
        t.due("what is drawn below 1", once(plain(t, 0, 0, 0, "8"), ahead(9999)).read(0), "8");
    }

    // ---- point 6: settings

    /** How many draws this r brings for one leaf. */
    private static int drawsAt(Bench made, int r) {
        made.tell(r, 0, 0, 0, 0, 0, 0);
        made.x.breed(1);
        return 7 - made.x.waiting();
    }

    private static void kindsAt(Bench t, int[] rates, int[][] due) {
        for (int[] pair : due) {
            Bench made = plain(t, rates[0], rates[1], rates[2], "5");
            t.due("draws with r " + pair[0], drawsAt(made, pair[0]), pair[1]);
        }
    }

    private static void rates(Bench t) {
        int[][] fine = {{0, 0, 0}, {100, 0, 0}, {0, 100, 0}, {0, 0, 100}, {33, 33, 34}, {50, 50, 0}, {99, 1, 0}, {0, 1, 99},
            {33, 33, 33}};
        int before = 70;
        for (int[] rates : fine) {
            t.due("setRates()", t.x.setRates(rates[0], rates[1], rates[2]), before);
            before = rates[0];
        }
        int[][] wrong = {{-1, 0, 0}, {0, -1, 0}, {0, 0, -1}, {101, 0, 0}, {0, 101, 0}, {0, 0, 101}, {-1, 50, 50}, {100, -1, 1},
            {34, 33, 34}, {100, 1, 0}, {100, 0, 1}, {0, 100, 1}, {1, 100, 0}, {0, 1, 100}, {1, 0, 100}, {100, 100, 100},
            {Integer.MAX_VALUE, Integer.MAX_VALUE, 2}, {Integer.MIN_VALUE, Integer.MIN_VALUE, 0}};
        for (int[] rates : wrong) {
            String call = "setRates(" + rates[0] + ", " + rates[1] + ", " + rates[2] + ")";
            t.refuses(Bench.BAD, call, Bench::fill, x -> x.setRates(rates[0], rates[1], rates[2]));
        }
    }

    private static void firstRates(Bench t) {
        int[][] due = {{0, CROSSED}, {69, CROSSED}, {70, CHANGED}, {89, CHANGED}, {90, HOISTED}, {94, HOISTED},
            {95, AS_IT_WAS}, {99, AS_IT_WAS}};
        for (int[] pair : due) {
            Bench made = t.fresh("5");
            made.x.setChoosing(1, 0);
            t.due("draws with r " + pair[0], drawsAt(made, pair[0]), pair[1]);
        }
        t.due("setRates()", t.x.setRates(0, 0, 0), 70);
    }

    private static void tournament(Bench t) {
        t.due("setChoosing(1, 0)", t.x.setChoosing(1, 0), 2);
        t.due("setChoosing(5, 4)", t.x.setChoosing(5, 4), 1);
        t.due("setChoosing(2, 1)", t.x.setChoosing(2, 1), 5);
        for (int wrong : new int[] {0, 6, -1, Integer.MIN_VALUE, Integer.MAX_VALUE}) {
            t.refuses(Bench.BAD, "a TOURNAMENT of " + wrong, Bench::fill, x -> x.setChoosing(wrong, 1));
        }
    }

    private static void firstTournament(Bench t) {
        Bench made = t.fresh("a", "b");
        made.x.setRates(0, 0, 0);
        made.tell(new int[9]);
        made.x.breed(1);
        made.due("waiting() behind r and two more", made.x.waiting(), 6);
        made.due("setChoosing()", made.x.setChoosing(1, 1), 2);
    }

    private static void elite(Bench t) {
        for (int elite = 0; elite <= 4; elite++) {
            Bench made = t.fresh(constants(6));
            made.x.setRates(0, 0, 0);
            made.x.setChoosing(1, elite);
            made.tell(new int[20]);
            made.x.breed(1);
            made.due("draws with an ELITE of " + elite, 20 - made.x.waiting(), 2 * (6 - elite));
        }
        for (int wrong : new int[] {-1, 5, Integer.MIN_VALUE, Integer.MAX_VALUE}) {
            t.refuses(Bench.BAD, "an ELITE of " + wrong, Bench::fill, x -> x.setChoosing(1, wrong));
        }
    }

    private static void firstElite(Bench t) {
        // one TREE is the ELITE, and nothing is drawn for it; of two, one is bred
        Bench one = t.fresh("a");
        one.tell(1, 2, 3);
        one.x.breed(10);
        one.due("waiting() of one TREE", one.x.waiting(), 3);
        Bench two = t.fresh("a", "b");
        two.x.setRates(0, 0, 0);
        breedBy(two, 0, 1, 1);
        two.due("the ELITE and one that is bred", all(two), "a, b");
    }

    // ---- point 6: a generation

    private static void asManyAsThereAre(Bench t) {
        for (int trees : new int[] {1, 2, 15, 16}) {
            Bench made = t.fresh(constants(trees));
            made.x.breed(1);
            made.due("trees()", made.x.trees(), trees);
            made.x.breed(10);
            made.due("trees()", made.x.trees(), trees);
            made.due("generations()", made.x.generations(), 11);
        }
        // the last of 16 is bred like the first
        Bench full = plain(t, 0, 0, 0, constants(16));
        int[] told = new int[32];
        for (int tree = 0; tree < 16; tree++) {
            told[2 * tree + 1] = 15 - tree;
        }
        breedBy(full, told);
        full.due("all in the other order", all(full), "15, 14, 13, 12, 11, 10, 9, 8, 7, 6, 5, 4, 3, 2, 1, 0");
    }

    /** The greater the number of the TREE, the better it is; the worst one is chosen for all that are bred. */
    private static void eliteOf(Bench t, int trees, int elite, String due) {
        Bench made = t.fresh(constants(trees));
        made.x.addCase(0, 0, 0, 50);
        made.x.setRates(0, 0, 0);
        made.x.setChoosing(1, elite);
        breedBy(made, new int[2 * Math.max(0, trees - elite)]);
        made.due("what is there with an ELITE of " + elite, all(made), due);
        made.due("misses()", made.x.misses(), 0);
    }

    private static void eliteOfAll(Bench t) {
        eliteOf(t, 5, 0, "0, 0, 0, 0, 0");
        eliteOf(t, 5, 1, "4, 0, 0, 0, 0");
        eliteOf(t, 5, 3, "4, 3, 2, 0, 0");
        eliteOf(t, 5, 4, "4, 3, 2, 1, 0");
        eliteOf(t, 4, 4, "3, 2, 1, 0");
        eliteOf(t, 3, 4, "2, 1, 0");
        eliteOf(t, 2, 4, "1, 0");
        eliteOf(t, 1, 4, "0");
        eliteOf(t, 1, 1, "0");
        eliteOf(t, 1, 0, "0");
    }

    private static void bestFirst(Bench t) {
        // all have the same ERROR, so that the WAY tells which are better
        String[] dues = {"+ 1 2, 3, + 2 1, 3", "3, 3, + 1 2, + 2 1", "3, 3, + 1 2, + 2 1"};
        for (int way = 0; way <= 2; way++) {
            Bench made = t.fresh("+ 1 2", "3", "+ 2 1", "3");
            made.x.addCase(0, 0, 0, 9);
            made.x.setWay(way, 1);
            made.x.setChoosing(5, 4);
            made.due("breed()", made.x.breed(1), 6);
            made.due("the best ones by the WAY " + way, all(made), dues[way]);
        }
    }

    private static void belowHundred(Bench t) {
        int[][] due = {{0, CROSSED}, {99, AS_IT_WAS}, {100, CROSSED}, {101, AS_IT_WAS}, {199, AS_IT_WAS}, {200, CROSSED},
            {Integer.MAX_VALUE, AS_IT_WAS}};
        kindsAt(t, new int[] {1, 0, 0}, due);
        kindsAt(t, new int[] {48, 0, 0}, new int[][] {{Integer.MAX_VALUE, CROSSED}});
        kindsAt(t, new int[] {47, 0, 0}, new int[][] {{Integer.MAX_VALUE, AS_IT_WAS}});
    }

    private static void asOftenAsTold(Bench t) {
        for (int tournament = 1; tournament <= 5; tournament++) {
            Bench made = t.fresh(constants(6));
            made.x.addCase(0, 0, 0, 50);
            made.x.setRates(0, 0, 0);
            made.x.setChoosing(tournament, 0);
            int[] told = new int[6 * (1 + tournament)];
            for (int draw = 0; draw < tournament; draw++) {
                // for the first one 1, 2, 3 and so on, and the last drawn is the best; for the second one the other way
                told[1 + draw] = 1 + draw;
                told[2 + tournament + draw] = 5 - draw;
            }
            breedBy(made, told);
            made.due("the best of " + tournament, made.read(0), "" + tournament);
            made.due("the best of " + tournament + " that came first", made.read(1), "5");
            made.due("one of all the same", made.read(2), "0");
        }
        // below n: n itself is 0 again
        Bench wrapped = plain(t, 0, 0, 0, "a", "b", "c");
        breedBy(wrapped, 0, 3, 0, 2, 0, 4);
        wrapped.due("by 3, 2 and 4 below 3", all(wrapped), "a, c, b");
    }

    private static void bestOfThese(Bench t) {
        // of the same MERIT the smaller number is the better one, whatever is drawn first
        Bench made = t.fresh("+ 1 2", "+ 2 1", "3");
        made.x.setRates(0, 0, 0);
        made.x.setChoosing(2, 0);
        breedBy(made, 0, 1, 0, 0, 0, 1, 0, 2, 1);
        made.due("by number", all(made), "+ 1 2, + 1 2, + 2 1");
        Bench sized = t.fresh("+ 1 2", "+ 2 1", "3");
        sized.x.setRates(0, 0, 0);
        sized.x.setChoosing(2, 0);
        sized.x.setWay(2, 1);
        breedBy(sized, 0, 1, 0, 0, 0, 2, 0, 2, 1);
        sized.due("by SIZE", all(sized), "+ 1 2, 3, 3");
        Bench once = t.fresh("3", "4");
        once.x.addCase(0, 0, 0, 3);
        once.x.setRates(0, 0, 0);
        once.x.setChoosing(5, 0);
        breedBy(once, 0, 1, 1, 1, 1, 1, 0, 1, 1, 1, 1, 0);
        once.due("a worse one, if it is drawn alone", all(once), "4, 3");
    }

    private static void newOnes(Bench t) {
        // all new ones are made of the old ones, though the first one is another one already
        Bench made = plain(t, 0, 0, 0, "a", "b", "c");
        breedBy(made, 0, 2, 0, 0, 0, 1);
        made.due("by one generation", all(made), "c, a, b");
        breedBy(made, 0, 2, 0, 0, 0, 1);
        made.due("by two generations", all(made), "b, c, a");
        // who is best is told by the old ones, too, though the first new one is a 9 already
        Bench bred = plain(t, 0, 50, 0, "5", "6");
        bred.x.addCase(0, 0, 0, 9);
        bred.x.setChoosing(2, 0);
        breedBy(bred, 0, 1, 1, 0, 108, 50, 0, 1);
        bred.due("what is bred by what the old ones are", all(bred), "9, 6");
    }

    // ---- point 6: what becomes of one

    private static void belowCrossing(Bench t) {
        kindsAt(t, new int[] {0, 100, 0}, new int[][] {{0, CHANGED}});
        kindsAt(t, new int[] {1, 99, 0}, new int[][] {{0, CROSSED}, {1, CHANGED}});
        kindsAt(t, new int[] {50, 50, 0}, new int[][] {{49, CROSSED}, {50, CHANGED}});
        kindsAt(t, new int[] {99, 1, 0}, new int[][] {{98, CROSSED}, {99, CHANGED}});
        kindsAt(t, new int[] {100, 0, 0}, new int[][] {{0, CROSSED}, {99, CROSSED}});
    }

    private static void belowChanging(Bench t) {
        kindsAt(t, new int[] {0, 0, 100}, new int[][] {{0, HOISTED}});
        kindsAt(t, new int[] {0, 1, 99}, new int[][] {{0, CHANGED}, {1, HOISTED}});
        kindsAt(t, new int[] {30, 0, 70}, new int[][] {{29, CROSSED}, {30, HOISTED}});
        kindsAt(t, new int[] {30, 20, 50}, new int[][] {{30, CHANGED}, {49, CHANGED}, {50, HOISTED}});
        kindsAt(t, new int[] {30, 70, 0}, new int[][] {{30, CHANGED}, {99, CHANGED}});
        // below its SIZE: the first PLACE, the last one, and the first again
        int[] places = {0, 2, 3, 5};
        String[] dues = {"- 5 7", "+ 5 -98", "- 5 7", "+ 5 -98"};
        for (int index = 0; index < places.length; index++) {
            Bench made = plain(t, 0, 100, 0, "+ 5 7");
            breedBy(made, 0, 0, places[index], 1);
            made.due("CHANGED by " + places[index], all(made), dues[index]);
        }
    }

    private static void belowHoisting(Bench t) {
        kindsAt(t, new int[] {0, 0, 0}, new int[][] {{0, AS_IT_WAS}, {99, AS_IT_WAS}});
        kindsAt(t, new int[] {0, 0, 1}, new int[][] {{0, HOISTED}, {1, AS_IT_WAS}});
        kindsAt(t, new int[] {30, 20, 0}, new int[][] {{49, CHANGED}, {50, AS_IT_WAS}});
        kindsAt(t, new int[] {30, 20, 10}, new int[][] {{50, HOISTED}, {59, HOISTED}, {60, AS_IT_WAS}});
        kindsAt(t, new int[] {33, 33, 33}, new int[][] {{98, HOISTED}, {99, AS_IT_WAS}});
        kindsAt(t, new int[] {30, 20, 50}, new int[][] {{50, HOISTED}, {99, HOISTED}});
    }

    private static void anotherOne(Bench t) {
        // another TREE, or the same one
        Bench made = plain(t, 100, 0, 0, "+ a 1", "* b 2");
        breedBy(made, 0, 0, 1, 1, 2, 0, 0, 0, 2, 1);
        made.due("CROSSED with the other one, and with itself", all(made), "+ 2 1, + a a");
        // both are the best of as many as the TOURNAMENT tells
        Bench best = t.fresh("7", "+ 3 4", "+ 1 2");
        best.x.addCase(0, 0, 0, 3);
        best.x.setRates(100, 0, 0);
        best.x.setChoosing(2, 2);
        breedBy(best, 0, 0, 1, 1, 2, 0, 1);
        best.due("the first one CROSSED with the best one", all(best), "+ 1 2, 7, 1");
    }

    private static void crossedPlaces(Bench t) {
        int[] places = {0, 1, 2, 3, 5, 300};
        String[] dues = {"c", "+ c 1", "+ a c", "c", "+ a c", "c"};
        for (int index = 0; index < places.length; index++) {
            Bench made = plain(t, 100, 0, 0, "+ a 1", "c");
            breedBy(made, 0, 0, 1, places[index], 0, 0, 1, 1, 0, 0);
            made.due("CROSSED at " + places[index], made.read(0), dues[index]);
        }
    }

    private static void placesOfSameType(Bench t) {
        String other = "if and < a 1 not = b 2 + b 3 c";
        // NUMBERS at 0, 3, 4, 7, 8, 9, 10, 11, 12; CONDITIONS at 1, 2, 5, 6
        String[] numbers = {other, "a", "1", "b", "2", "+ b 3", "b", "3", "c", other, "a"};
        for (int drawn = 0; drawn < numbers.length; drawn++) {
            Bench made = plain(t, 100, 0, 0, "* 8 9", other);
            breedBy(made, 0, 0, 1, 1, drawn, 0, 1, 1, 0, 0);
            made.due("CROSSED with the NUMBER " + drawn, made.read(0), "* " + numbers[drawn] + " 9");
        }
        String[] conditions = {"and < a 1 not = b 2", "< a 1", "not = b 2", "= b 2", "and < a 1 not = b 2", "< a 1"};
        for (int drawn = 0; drawn < conditions.length; drawn++) {
            Bench made = plain(t, 100, 0, 0, "if < 8 9 8 9", other);
            breedBy(made, 0, 0, 1, 1, drawn, 0, 1, 1, 0, 0);
            made.due("CROSSED with the CONDITION " + drawn, made.read(0), "if " + conditions[drawn] + " 8 9");
        }
    }

    private static void nothingDrawn(Bench t) {
        Bench made = plain(t, 100, 0, 0, "if < a b c 1", "+ a b");
        // the first one at its CONDITION with one without any: four draws; then at a NUMBER: five
        breedBy(made, 0, 0, 1, 1, 0, 0, 1, 2, 2);
        made.due("what is bred", all(made), "if < a b c 1, if < b b c 1");
        made.due("misses()", made.x.misses(), 1);
        Bench lucky = plain(t, 100, 0, 0, "if < a b c 1", "+ a b");
        lucky.tell(0, 0, 1, 1, 0, 1, 1, 0);
        lucky.x.breed(1);
        lucky.due("luck() behind one draw that is not TOLD", lucky.x.luck(), after(0));
    }

    private static void newConstants(Bench t) {
        int[] drawn = {0, 1, 98, 99, 100, 197, 198, 199, 200, 397, 398};
        int[] dues = {-99, -98, -1, 0, 1, 98, 99, -99, -98, 99, -99};
        for (int index = 0; index < drawn.length; index++) {
            Bench made = plain(t, 0, 100, 0, "+ a 7");
            breedBy(made, 0, 0, 2, drawn[index]);
            made.due("a CONSTANT by " + drawn[index], all(made), "+ a " + dues[index]);
        }
    }

    private static void newInputs(Bench t) {
        String[] dues = {"a", "b", "c", "a", "b"};
        for (int drawn = 0; drawn < dues.length; drawn++) {
            Bench made = plain(t, 0, 100, 0, "+ b 7");
            breedBy(made, 0, 0, 1, drawn);
            made.due("an INPUT by " + drawn, all(made), "+ " + dues[drawn] + " 7");
        }
    }

    private static void newCodes(Bench t) {
        int[][] kins = {{2, 3, 4, 5, 6, 7}, {8}, {9, 10}, {11, 12}, {13}};
        int[] places = {9, 0, 2, 1, 5};
        for (int kin = 0; kin < kins.length; kin++) {
            int many = kins[kin].length;
            for (int old : kins[kin]) {
                for (int drawn : new int[] {0, many - 1, many, 2 * many - 1}) {
                    Bench made = plain(t, 0, 100, 0, "if and < a 1 not = b 2 + a b 7");
                    made.x.recode(0, places[kin], old, 0);
                    breedBy(made, 0, 0, places[kin], drawn);
                    made.due(old + " RECODED by " + drawn, made.x.codeAt(0, places[kin]), kins[kin][drawn % many]);
                    made.due("size()", made.x.size(0), 13);
                    made.due("misses()", made.x.misses(), 0);
                }
            }
        }
    }

    private static void hoistedPlaces(Bench t) {
        // the NUMBERS are at 0, 3, 4, 5, 6 and 7
        String whole = "if not < a 1 + b 2";
        String[] dues = {whole + " c", "a", "1", "+ b 2", "b", "2", "c", whole + " c", "a"};
        for (int drawn = 0; drawn < dues.length; drawn++) {
            Bench made = plain(t, 0, 0, 100, whole + " c");
            breedBy(made, 0, 0, drawn);
            made.due("HOISTED by " + drawn, all(made), dues[drawn]);
            made.due("misses()", made.x.misses(), 0);
        }
        Bench leaf = plain(t, 0, 0, 100, "8");
        breedBy(leaf, 0, 0, 5);
        leaf.due("a leaf HOISTED", all(leaf), "8");
    }

    private static void asItWas(Bench t) {
        Bench made = plain(t, 30, 30, 30, "if < a b 1 2", "+ a b");
        breedBy(made, 90, 1, 99, 0);
        made.due("what is bred", all(made), "+ a b, if < a b 1 2");
        made.due("misses()", made.x.misses(), 0);
    }

    // ---- point 6: MISSES

    private static void crossedOnce(Bench t, String first, String other, int place, int drawn, int size) {
        Bench made = plain(t, 100, 0, 0, first, other);
        // the second one is crossed at its root with its own root
        breedBy(made, 0, 0, 1, place, drawn, 0, 1, 1, 0, 0);
        boolean miss = size == 0;
        made.due("misses()", made.x.misses(), miss ? 1 : 0);
        made.due("size()", made.x.size(0), miss ? first.split(" ").length : size);
        if (miss) {
            made.due("what is bred", made.read(0), first);
        }
        made.due("the other one", made.read(1), other);
    }

    private static void notAllowed(Bench t) {
        crossedOnce(t, "+ + a + a b " + Bench.sized(33), "if < a b a b", 1, 0, 40);
        crossedOnce(t, "+ + a + a b " + Bench.sized(34), "if < a b a b", 1, 0, 0);
        crossedOnce(t, Bench.deep(7), "+ a b", 12, 0, 15);
        crossedOnce(t, Bench.deep(8), "+ a b", 14, 0, 0);
        crossedOnce(t, Bench.deep(8), "+ a b", 12, 0, 15);
        String low = "+ a + a + a + a + a if < a b c c";
        crossedOnce(t, low, "if not = a b c c", 11, 1, 16);
        crossedOnce(t, low, "if not = a b c c", 11, 0, 0);
        crossedOnce(t, "+ + + + + + + a b b b b b b b", "+ a b", 7, 0, 0);
        crossedOnce(t, "+ + + + + + + a b b b b b b b", "+ a b", 6, 0, 15);
    }

    private static void noPlaceThere(Bench t) {
        Bench made = plain(t, 100, 0, 0, "if < a b c 1", "+ a b", "if = a b 1 2");
        // at a CONDITION with one that has none, at a CONDITION with one that has one, and at a NUMBER
        breedBy(made, 0, 0, 1, 1, 0, 0, 2, 1, 0, 0, 0, 1, 0, 1);
        made.due("what is bred", all(made), "if < a b c 1, if = a b c 1, a");
        made.due("misses()", made.x.misses(), 1);
    }

    private static void copyOfFirst(Bench t) {
        Bench made = plain(t, 100, 0, 0, Bench.deep(8), "+ c c");
        // both times the first one is TREE 0: too deep with itself, and with TREE 1
        breedBy(made, 0, 0, 0, 14, 0, 0, 0, 1, 14, 0);
        made.due("what is bred", all(made), Bench.deep(8) + ", " + Bench.deep(8));
        made.due("misses()", made.x.misses(), 2);
        // a copy: what becomes of one is its own
        made.x.wither(0, 1, 5);
        made.due("the other copy", made.read(1), Bench.deep(8));
    }

    private static void noMisses(Bench t) {
        Bench elite = t.fresh("a", "b", "c", "1");
        elite.x.setRates(100, 0, 0);
        elite.x.setChoosing(1, 4);
        elite.x.breed(10);
        elite.due("misses() of the ELITE", elite.x.misses(), 0);
        Bench same = plain(t, 0, 0, 0, "a", "b", "if < a b 1 2");
        same.x.breed(10);
        same.due("misses() of what is as it was", same.x.misses(), 0);
        Bench changed = plain(t, 0, 60, 40, "if and < a 1 not = b 2 + a b 7", Bench.sized(40), Bench.deep(8));
        changed.x.breed(10);
        changed.due("misses() of what is CHANGED and HOISTED", changed.x.misses(), 0);
        Bench itself = plain(t, 100, 0, 0, "a");
        itself.x.breed(10);
        itself.due("misses() of a leaf with itself", itself.x.misses(), 0);
    }
}
