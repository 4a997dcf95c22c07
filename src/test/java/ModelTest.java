import java.util.Random;
import java.util.function.Supplier;

/** Long runs of calls, the same on Barnacle and on the Model; each answer must be the same. */
public final class ModelTest {
    private static final int RUNS = 400;
    /** What comes behind so many calls is not promised. */
    private static final int CALLS = 512;

    private final Random random;
    private final Barnacle x = new Barnacle();
    private final Model m = new Model();
    private final int run;
    private int calls = 0;
    private int wrong = 0;

    private ModelTest(int run) {
        this.run = run;
        this.random = new Random(run);
    }

    public static void main(String[] args) {
        int wrong = 0;
        for (int run = 0; run < RUNS; run++) {
            wrong += new ModelTest(run).go();
        }
        System.out.println("ModelTest: " + (wrong == 0 ? "all answers are the same" : wrong + " runs with other answers"));
        if (wrong != 0) {
            System.exit(1);
        }
    }

    private static Object answer(Supplier<Object> call) {
        try {
            return call.get();
        } catch (RuntimeException e) {
            return e.getClass().getSimpleName();
        }
    }

    private void same(String call, Supplier<Object> got, Supplier<Object> want) {
        if (calls == CALLS) {
            return;
        }
        calls++;
        Object answered = answer(got);
        Object due = answer(want);
        if (!answered.equals(due) && wrong++ == 0) {
            System.out.println("run " + run + ": " + call + " answered " + answered + ", due is " + due);
        }
    }

    private int go() {
        while (calls < CALLS && wrong == 0) {
            oneCall();
            same("digest()", x::digest, m::digest);
        }
        return wrong == 0 ? 0 : 1;
    }

    /** A number of a range, now and then just outside it. */
    private int near(int low, int high) {
        return switch (random.nextInt(30)) {
            case 0 -> low - 1;
            case 1 -> high + 1;
            case 2 -> random.nextBoolean() ? Integer.MIN_VALUE : Integer.MAX_VALUE;
            case 3 -> low;
            case 4 -> high;
            default -> low + random.nextInt(Math.max(1, high - low + 1));
        };
    }

    private int anyTree() {
        return near(0, Math.max(0, m.trees() - 1));
    }

    private int anyPlace(int tree) {
        return tree >= 0 && tree < m.trees() ? near(0, m.size(tree) - 1) : near(0, 39);
    }

    private int anyValue(int code) {
        if (code == 1) {
            return near(0, 2);
        }
        return random.nextBoolean() ? random.nextInt(4) - 1 : near(-99, 99);
    }

    private void oneCall() {
        int die = random.nextInt(100);
        if (die < 40) {
            sketchSome();
        } else if (die < 66) {
            change();
        } else if (die < 83) {
            breedSome();
        } else {
            ask();
        }
    }

    /** A whole TREE is sketched in one go, without a digest between its NODES. */
    private void sketchSome() {
        int most = random.nextInt(3) == 0 ? 1 : 60;
        for (int step = 0; step < most && !(step > 0 && m.sketched() == 0); step++) {
            int code = random.nextInt(3) == 0 ? near(0, 1) : random.nextInt(40) == 0 ? near(0, 13) : random.nextInt(14);
            int value = anyValue(code);
            same("sketch(" + code + ", " + value + ")", () -> x.sketch(code, value), () -> m.sketch(code, value));
            if (random.nextInt(8) == 0) {
                same("plant()", x::plant, m::plant);
            }
        }
        same("plant()", x::plant, m::plant);
        if (random.nextInt(20) == 0) {
            same("erase()", x::erase, m::erase);
        }
    }

    private void change() {
        int tree = anyTree();
        int place = anyPlace(tree);
        int other = anyTree();
        int otherPlace = anyPlace(other);
        int code = near(0, 13);
        int value = anyValue(code);
        String at = "(" + tree + ", " + place + ", ";
        switch (random.nextInt(12)) {
            case 0, 1, 2, 3 -> same("cross" + at + other + ", " + otherPlace + ")",
                    () -> x.cross(tree, place, other, otherPlace), () -> m.cross(tree, place, other, otherPlace));
            case 4 -> same("hoist" + at + ")", () -> x.hoist(tree, place), () -> m.hoist(tree, place));
            case 5, 6 -> same("recode" + at + code + ", " + value + ")",
                    () -> x.recode(tree, place, code, value), () -> m.recode(tree, place, code, value));
            case 7 -> same("wither" + at + value + ")",
                    () -> x.wither(tree, place, value), () -> m.wither(tree, place, value));
            case 8 -> same("simplify(" + tree + ")", () -> x.simplify(tree), () -> m.simplify(tree));
            case 9 -> same("fell(" + tree + ")", () -> x.fell(tree), () -> m.fell(tree));
            default -> addCase();
        }
    }

    private void addCase() {
        int a = near(-99, 99);
        int b = near(-99, 99);
        int c = near(-99, 99);
        int due = random.nextBoolean() ? near(-9999, 9999) : near(-30, 30);
        same("addCase(" + a + ", " + b + ", " + c + ", " + due + ")",
                () -> x.addCase(a, b, c, due), () -> m.addCase(a, b, c, due));
    }

    private void breedSome() {
        int first = near(0, 100);
        int second = near(0, Math.max(0, 100 - Math.abs(first % 101)));
        int third = near(0, 40);
        int many = near(1, 10);
        switch (random.nextInt(10)) {
            case 0 -> same("setRates(" + first + ", " + second + ", " + third + ")",
                    () -> x.setRates(first, second, third), () -> m.setRates(first, second, third));
            case 1 -> {
                int tournament = near(1, 5);
                int elite = near(0, 4);
                same("setChoosing(" + tournament + ", " + elite + ")",
                        () -> x.setChoosing(tournament, elite), () -> m.setChoosing(tournament, elite));
            }
            case 2 -> {
                int luck = near(0, 9999);
                same("setLuck(" + luck + ")", () -> x.setLuck(luck), () -> m.setLuck(luck));
            }
            case 3 -> {
                int way = near(0, 2);
                int weight = near(0, 99);
                same("setWay(" + way + ", " + weight + ")", () -> x.setWay(way, weight), () -> m.setWay(way, weight));
            }
            case 4, 5, 6 -> tellSome();
            case 7 -> same("errorBred(" + many + ")", () -> x.errorBred(many), () -> m.errorBred(many));
            default -> same("breed(" + many + ")", () -> x.breed(many), () -> m.breed(many));
        }
    }

    private void tellSome() {
        int many = random.nextInt(15);
        for (int told = 0; told < many; told++) {
            int number = random.nextInt(5) == 0 ? near(0, 1000000) : random.nextInt(60);
            same("tell(" + number + ")", () -> x.tell(number), () -> m.tell(number));
        }
    }

    private void ask() {
        int tree = anyTree();
        int place = anyPlace(tree);
        int other = anyTree();
        int otherPlace = anyPlace(other);
        int a = near(-99, 99);
        int b = near(-99, 99);
        int c = near(-99, 99);
        String at = "(" + tree + ", " + place + ")";
        switch (random.nextInt(24)) {
            case 0 -> same("sketched()", x::sketched, m::sketched);
            case 1 -> same("trees()", x::trees, m::trees);
            case 2 -> same("cases()", x::cases, m::cases);
            case 3 -> same("size(" + tree + ")", () -> x.size(tree), () -> m.size(tree));
            case 4 -> same("depth(" + tree + ")", () -> x.depth(tree), () -> m.depth(tree));
            case 5 -> same("codeAt" + at, () -> x.codeAt(tree, place), () -> m.codeAt(tree, place));
            case 6 -> same("valueAt" + at, () -> x.valueAt(tree, place), () -> m.valueAt(tree, place));
            case 7 -> same("sizeAt" + at, () -> x.sizeAt(tree, place), () -> m.sizeAt(tree, place));
            case 8 -> same("above" + at, () -> x.above(tree, place), () -> m.above(tree, place));
            case 9, 10 -> same("gives(" + tree + ", " + a + ", " + b + ", " + c + ")",
                    () -> x.gives(tree, a, b, c), () -> m.gives(tree, a, b, c));
            case 11 -> same("error(" + tree + ")", () -> x.error(tree), () -> m.error(tree));
            case 12 -> same("merit(" + tree + ")", () -> x.merit(tree), () -> m.merit(tree));
            case 13 -> same("hits(" + tree + ")", () -> x.hits(tree), () -> m.hits(tree));
            case 14 -> same("ranked(" + tree + ")", () -> x.ranked(tree), () -> m.ranked(tree));
            case 15 -> same("different()", x::different, m::different);
            case 16 -> same("alike(" + tree + ", " + other + ")", () -> x.alike(tree, other), () -> m.alike(tree, other));
            case 17 -> same("meanSize()", x::meanSize, m::meanSize);
            case 18 -> same("generations()", x::generations, m::generations);
            case 19 -> same("misses()", x::misses, m::misses);
            case 20 -> same("luck()", x::luck, m::luck);
            case 21 -> same("waiting()", x::waiting, m::waiting);
            case 22 -> same("errorCrossed(" + tree + ", " + place + ", " + other + ", " + otherPlace + ")",
                    () -> x.errorCrossed(tree, place, other, otherPlace),
                    () -> m.errorCrossed(tree, place, other, otherPlace));
            default -> same("bestHoist(" + tree + ")", () -> x.bestHoist(tree), () -> m.bestHoist(tree));
        }
    }
}
