/** A bench for breeding expressions. */
public final class Barnacle {

    private static final int MOST_NODES = 40;
    private static final int MOST_LEVELS = 8;
    private static final int MOST_TREES = 16;
    private static final int MOST_CASES = 12;
    private static final int MOST_TOLD = 40;
    private static final int MOST_ELITE = 4;
    private static final int MOST_CHOSEN = 5;
    private static final int MOST_GENERATIONS = 10;
    private static final int INPUTS = 3;
    private static final int LARGEST_VALUE = 99;
    private static final int LARGEST_RESULT = 9999;
    private static final int LUCKS = 10000;

    private static final int BY_ERROR_AND_SIZE = 1;
    private static final int BY_ERROR_THEN_SIZE = 2;

    private static final int CONSTANT = 0;
    private static final int INPUT = 1;
    private static final int SUM = 2;
    private static final int DIFFERENCE = 3;
    private static final int PRODUCT = 4;
    private static final int QUOTIENT = 5;
    private static final int LESSER = 6;
    private static final int GREATER = 7;
    private static final int CHOICE = 8;
    private static final int BELOW = 9;
    private static final int SAME = 10;
    private static final int BOTH = 11;
    private static final int EITHER = 12;
    private static final int NOT = 13;

    /** By code: how many parts a NODE has right beneath it. */
    private static final int[] PARTS = {0, 0, 2, 2, 2, 2, 2, 2, 3, 2, 2, 2, 2, 1};

    /** By code: the first code of its kin, the codes of the same type with the same types beneath them. */
    private static final int[] KIN_STARTS = {0, 0, 2, 2, 2, 2, 2, 2, 8, 9, 9, 11, 11, 13};

    /** By code: how many codes its kin has; they follow one another. */
    private static final int[] KIN_COUNTS = {2, 2, 6, 6, 6, 6, 6, 6, 1, 2, 2, 2, 2, 1};

    private final Sketch sketch = new Sketch();
    private final Judge judge = new Judge();
    private final Ranking ranking = new Ranking();
    private final Breeder breeder = new Breeder();
    private final Simplifier simplifier = new Simplifier();
    private final Reckoner reckoner = new Reckoner();
    private final Grove grove = new Grove();
    /** Stands in for the GROVE where it is only asked what would be. */
    private final Grove trialGrove = new Grove();
    /** Holds what a TREE would be until it is known to be allowed. */
    private final Tree trialTree = new Tree();

    public Barnacle() {
    }

    // ---- sketching and planting

    public int sketch(int code, int value) throws IllegalArgumentException, IllegalStateException {
        requireNode(code, value);
        if (!sketch.accepts(code)) {
            throw new IllegalStateException("the NODE cannot come to the SKETCH");
        }
        sketch.take(code, value);
        return sketch.missing;
    }

    public int erase() {
        int had = sketch.row.nodes;
        sketch.clear();
        return had;
    }

    public int plant() throws IllegalStateException {
        if (sketch.missing != 0 || grove.count >= MOST_TREES) {
            throw new IllegalStateException("the SKETCH is no TREE, or the GROVE is full");
        }
        int number = grove.count;
        grove.add(sketch.row);
        sketch.clear();
        return number;
    }

    public int fell(int tree) throws IndexOutOfBoundsException {
        int felled = requireTree(tree).nodes;
        grove.remove(tree);
        return felled;
    }

    public int addCase(int a, int b, int c, int due) throws IllegalArgumentException, IllegalStateException {
        requireInputs(a, b, c);
        if (due < -LARGEST_RESULT || due > LARGEST_RESULT) {
            throw new IllegalArgumentException("what is due is not -9999 to 9999");
        }
        if (judge.cases >= MOST_CASES) {
            throw new IllegalStateException("there are 12 CASES");
        }
        int number = judge.cases;
        judge.add(a, b, c, due);
        return number;
    }

    public int setWay(int way, int weight) throws IllegalArgumentException {
        if (way < 0 || way > BY_ERROR_THEN_SIZE || weight < 0 || weight > 99) {
            throw new IllegalArgumentException("way is not 0 to 2, or weight is not 0 to 99");
        }
        int before = judge.way;
        judge.way = way;
        judge.weight = weight;
        return before;
    }

    // ---- changes at places that are told

    public int cross(int tree, int place, int other, int otherPlace) throws IndexOutOfBoundsException {
        Tree changed = requirePlace(tree, place);
        Tree giver = requirePlace(other, otherPlace);
        if (!trialTree.becomeCrossed(changed, place, giver, otherPlace)) {
            return -1;
        }
        changed.copyFrom(trialTree);
        return changed.nodes;
    }

    public int hoist(int tree, int place) throws IndexOutOfBoundsException {
        Tree changed = requirePlace(tree, place);
        if (!changed.isNumber(place)) {
            return -1;
        }
        changed.keepPart(0, place);
        return changed.nodes;
    }

    public int recode(int tree, int place, int code, int value)
            throws IndexOutOfBoundsException, IllegalArgumentException {
        Tree changed = requirePlace(tree, place);
        requireNode(code, value);
        int before = changed.code(place);
        if (at(KIN_STARTS, before) != at(KIN_STARTS, code)) {
            return -1;
        }
        changed.write(place, code, value);
        return before;
    }

    public int wither(int tree, int place, int value) throws IndexOutOfBoundsException, IllegalArgumentException {
        Tree changed = requirePlace(tree, place);
        if (value < -LARGEST_VALUE || value > LARGEST_VALUE) {
            throw new IllegalArgumentException("value is not -99 to 99");
        }
        if (!changed.isNumber(place)) {
            return -1;
        }
        changed.makeConstant(place, value);
        return changed.nodes;
    }

    public int simplify(int tree) throws IndexOutOfBoundsException {
        Tree changed = requireTree(tree);
        int before = changed.nodes;
        simplifier.finish(changed);
        return before - changed.nodes;
    }

    // ---- breeding

    public int setRates(int crossing, int changing, int hoisting) throws IllegalArgumentException {
        if (!isRate(crossing) || !isRate(changing) || !isRate(hoisting) || crossing + changing + hoisting > 100) {
            throw new IllegalArgumentException("a rate is not 0 to 100, or they are more than 100 together");
        }
        int before = breeder.crossing;
        breeder.crossing = crossing;
        breeder.changing = changing;
        breeder.hoisting = hoisting;
        return before;
    }

    public int setChoosing(int tournament, int elite) throws IllegalArgumentException {
        if (tournament < 1 || tournament > MOST_CHOSEN || elite < 0 || elite > MOST_ELITE) {
            throw new IllegalArgumentException("tournament is not 1 to 5, or elite is not 0 to 4");
        }
        int before = breeder.tournament;
        breeder.tournament = tournament;
        breeder.elite = elite;
        return before;
    }

    public int setLuck(int luck) throws IllegalArgumentException {
        if (luck < 0 || luck >= LUCKS) {
            throw new IllegalArgumentException("luck is not 0 to 9999");
        }
        int before = grove.draws.luck;
        grove.draws.luck = luck;
        return before;
    }

    public int tell(int number) throws IllegalArgumentException, IllegalStateException {
        if (number < 0) {
            throw new IllegalArgumentException("number is less than 0");
        }
        if (grove.draws.waiting >= MOST_TOLD) {
            throw new IllegalStateException("40 numbers wait");
        }
        grove.draws.add(number);
        return grove.draws.waiting;
    }

    public int breed(int generations) throws IllegalArgumentException, IllegalStateException {
        requireBreeding(generations);
        return breeder.errorAfter(generations, grove, judge);
    }

    // ---- asking

    public int sketched() {
        return sketch.row.nodes;
    }

    public int trees() {
        return grove.count;
    }

    public int cases() {
        return judge.cases;
    }

    public int size(int tree) throws IndexOutOfBoundsException {
        return requireTree(tree).nodes;
    }

    public int depth(int tree) throws IndexOutOfBoundsException {
        return requireTree(tree).levels;
    }

    public int codeAt(int tree, int place) throws IndexOutOfBoundsException {
        return requirePlace(tree, place).code(place);
    }

    public int valueAt(int tree, int place) throws IndexOutOfBoundsException {
        return requirePlace(tree, place).value(place);
    }

    public int sizeAt(int tree, int place) throws IndexOutOfBoundsException {
        return requirePlace(tree, place).span(place);
    }

    public int above(int tree, int place) throws IndexOutOfBoundsException {
        return requirePlace(tree, place).placeAbove(place);
    }

    public int gives(int tree, int a, int b, int c) throws IndexOutOfBoundsException, IllegalArgumentException {
        Tree asked = requireTree(tree);
        requireInputs(a, b, c);
        reckoner.setInputs(a, b, c);
        return reckoner.resultOf(asked, 0);
    }

    public int error(int tree) throws IndexOutOfBoundsException {
        return judge.errorOf(requireTree(tree), 0);
    }

    public int merit(int tree) throws IndexOutOfBoundsException {
        return judge.meritOf(requireTree(tree));
    }

    public int hits(int tree) throws IndexOutOfBoundsException {
        return judge.hitsOf(requireTree(tree));
    }

    public int ranked(int rank) throws IndexOutOfBoundsException {
        if (rank < 0 || rank >= grove.count) {
            throw new IndexOutOfBoundsException("there is no such rank");
        }
        ranking.rank(grove, judge);
        return ranking.withRank(rank);
    }

    public int different() {
        int found = 0;
        for (int number = 0; number < grove.count; number++) {
            if (!grove.hasEarlierTwin(number)) {
                found++;
            }
        }
        return found;
    }

    public int alike(int tree, int other) throws IndexOutOfBoundsException {
        return requireTree(tree).sameNodes(requireTree(other));
    }

    public double meanSize() {
        if (grove.count == 0) {
            return 0.0;
        }
        int sum = 0;
        for (int number = 0; number < grove.count; number++) {
            sum += grove.tree(number).nodes;
        }
        return (double) sum / (double) grove.count;
    }

    public int generations() {
        return grove.generations;
    }

    public int misses() {
        return grove.misses;
    }

    public int luck() {
        return grove.draws.luck;
    }

    public int waiting() {
        return grove.draws.waiting;
    }

    // ---- what would be (nothing is changed)

    public int errorCrossed(int tree, int place, int other, int otherPlace) throws IndexOutOfBoundsException {
        Tree changed = requirePlace(tree, place);
        Tree giver = requirePlace(other, otherPlace);
        if (!trialTree.becomeCrossed(changed, place, giver, otherPlace)) {
            return -1;
        }
        return judge.errorOf(trialTree, 0);
    }

    public int bestHoist(int tree) throws IndexOutOfBoundsException {
        Tree asked = requireTree(tree);
        int best = 0;
        int bestError = judge.errorOf(asked, 0);
        for (int place = 1; place < asked.nodes; place++) {
            if (asked.isNumber(place)) {
                int error = judge.errorOf(asked, place);
                if (error < bestError || error == bestError && asked.span(place) < asked.span(best)) {
                    best = place;
                    bestError = error;
                }
            }
        }
        return best;
    }

    public int errorBred(int generations) throws IllegalArgumentException, IllegalStateException {
        requireBreeding(generations);
        trialGrove.copyFrom(grove);
        return breeder.errorAfter(generations, trialGrove, judge);
    }

    public long digest() {
        long d = 58042L;
        d = d * 31L + sketch.row.nodes;
        d = d * 31L + grove.count;
        d = d * 31L + judge.cases;
        d = d * 31L + grove.generations;
        d = d * 31L + grove.misses;
        d = d * 31L + grove.draws.luck;
        d = d * 31L + grove.draws.waiting;
        d = d * 31L + different();
        for (int number = 0; number < grove.count; number++) {
            d = digestWith(d, grove.tree(number));
        }
        ranking.rank(grove, judge);
        for (int rank = 0; rank < grove.count; rank++) {
            d = d * 31L + ranking.withRank(rank);
        }
        return d;
    }

    // ---- what the calls share

    private long digestWith(long before, Tree tree) {
        long d = before;
        d = d * 31L + tree.nodes;
        d = d * 31L + tree.levels;
        d = d * 31L + judge.errorOf(tree, 0);
        d = d * 31L + judge.meritOf(tree);
        d = d * 31L + judge.hitsOf(tree);
        for (int place = 0; place < tree.nodes; place++) {
            d = d * 31L + tree.code(place);
            d = d * 31L + tree.value(place);
        }
        return d;
    }

    private Tree requireTree(int tree) throws IndexOutOfBoundsException {
        if (tree < 0 || tree >= grove.count) {
            throw new IndexOutOfBoundsException("there is no such TREE");
        }
        return grove.tree(tree);
    }

    private Tree requirePlace(int tree, int place) throws IndexOutOfBoundsException {
        Tree asked = requireTree(tree);
        if (place < 0 || place >= asked.nodes) {
            throw new IndexOutOfBoundsException("there is no such PLACE");
        }
        return asked;
    }

    private void requireBreeding(int generations) throws IllegalArgumentException, IllegalStateException {
        if (generations < 1 || generations > MOST_GENERATIONS) {
            throw new IllegalArgumentException("generations is not 1 to 10");
        }
        if (grove.count == 0) {
            throw new IllegalStateException("the GROVE is empty");
        }
    }

    private static void requireNode(int code, int value) throws IllegalArgumentException {
        if (code < CONSTANT || code > NOT) {
            throw new IllegalArgumentException("code is not 0 to 13");
        }
        if (code == CONSTANT && (value < -LARGEST_VALUE || value > LARGEST_VALUE)) {
            throw new IllegalArgumentException("the value of a CONSTANT is not -99 to 99");
        }
        if (code == INPUT && (value < 0 || value >= INPUTS)) {
            throw new IllegalArgumentException("the value of an INPUT is not 0 to 2");
        }
    }

    private static void requireInputs(int a, int b, int c) throws IllegalArgumentException {
        if (!isInput(a) || !isInput(b) || !isInput(c)) {
            throw new IllegalArgumentException("an input is not -99 to 99");
        }
    }

    private static boolean isInput(int given) {
        return given >= -LARGEST_VALUE && given <= LARGEST_VALUE;
    }

    private static boolean isRate(int rate) {
        return rate >= 0 && rate <= 100;
    }

    private static boolean isNumberPart(int code, int part) {
        return code < BOTH && !(code == CHOICE && part == 0);
    }

    private static int at(int[] row, int index) {
        return index < 0 || index >= row.length ? 0 : row[index];
    }

    private static void put(int[] row, int index, int number) {
        if (index >= 0 && index < row.length) {
            row[index] = number;
        }
    }

    /** A TREE, or a part of one: its NODES in a row, by PLACES. */
    private static final class Tree {
        private final int[] codes = new int[MOST_NODES];
        private final int[] values = new int[MOST_NODES];
        /** By PLACE: how many NODES there are there and beneath it. */
        private final int[] spans = new int[MOST_NODES];
        /** By PLACE: how many NODES there are on the longest way down from there. */
        private final int[] heights = new int[MOST_NODES];
        private int nodes;
        private int levels;

        int code(int place) {
            return at(codes, place);
        }

        int value(int place) {
            return at(values, place);
        }

        int span(int place) {
            return at(spans, place);
        }

        boolean isNumber(int place) {
            return at(codes, place) <= CHOICE;
        }

        boolean isConstant(int place, int value) {
            return code(place) == CONSTANT && value(place) == value;
        }

        /** The PLACE behind a NODE and all that is beneath it; for a first part it is that of the second one. */
        int behind(int place) {
            return place + at(spans, place);
        }

        int placeAbove(int place) {
            for (int higher = place - 1; higher >= 0; higher--) {
                if (behind(higher) > place) {
                    return higher;
                }
            }
            return -1;
        }

        boolean hasInput(int place) {
            int end = behind(place);
            for (int lower = place; lower < end; lower++) {
                if (code(lower) == INPUT) {
                    return true;
                }
            }
            return false;
        }

        boolean sameParts(int place, int otherPlace) {
            int span = span(place);
            for (int step = 0; step < span; step++) {
                if (code(place + step) != code(otherPlace + step) || value(place + step) != value(otherPlace + step)) {
                    return false;
                }
            }
            return true;
        }

        int sameNodes(Tree other) {
            int common = Math.min(nodes, other.nodes);
            for (int place = 0; place < common; place++) {
                if (code(place) != other.code(place) || value(place) != other.value(place)) {
                    return place;
                }
            }
            return common;
        }

        int countOfType(boolean number) {
            int found = 0;
            for (int place = 0; place < nodes; place++) {
                if (isNumber(place) == number) {
                    found++;
                }
            }
            return found;
        }

        int placeOfType(boolean number, int index) {
            int found = 0;
            for (int place = 0; place < nodes; place++) {
                if (isNumber(place) == number) {
                    if (found == index) {
                        return place;
                    }
                    found++;
                }
            }
            return 0;
        }

        void write(int place, int code, int value) {
            put(codes, place, code);
            put(values, place, code <= INPUT ? value : 0);
        }

        void append(int code, int value) {
            if (nodes < MOST_NODES) {
                write(nodes, code, value);
                nodes++;
            }
        }

        void copyFrom(Tree other) {
            nodes = 0;
            appendFrom(other, 0, other.nodes);
            measure();
        }

        void makeConstant(int place, int value) {
            int end = behind(place);
            write(place, CONSTANT, value);
            closeGap(place + 1, end);
            measure();
        }

        /** Leaves, of what is at a PLACE, only a part of it. */
        void keepPart(int place, int part) {
            int end = behind(place);
            int kept = span(part);
            for (int step = 0; step < kept; step++) {
                write(place + step, code(part + step), value(part + step));
            }
            closeGap(place + kept, end);
            measure();
        }

        /** Becomes a TREE that is CROSSED with another one (neither is this one); false if that is not allowed. */
        boolean becomeCrossed(Tree first, int place, Tree other, int otherPlace) {
            int size = first.nodes - first.span(place) + other.span(otherPlace);
            if (first.isNumber(place) != other.isNumber(otherPlace) || size > MOST_NODES) {
                return false;
            }
            nodes = 0;
            appendFrom(first, 0, place);
            appendFrom(other, otherPlace, other.behind(otherPlace));
            appendFrom(first, first.behind(place), first.nodes);
            measure();
            return levels <= MOST_LEVELS;
        }

        private void appendFrom(Tree other, int start, int end) {
            for (int place = start; place < end; place++) {
                put(codes, nodes, at(other.codes, place));
                put(values, nodes, at(other.values, place));
                nodes++;
            }
        }

        private void closeGap(int start, int end) {
            int less = end - start;
            for (int place = end; place < nodes; place++) {
                put(codes, place - less, at(codes, place));
                put(values, place - less, at(values, place));
            }
            nodes -= less;
        }

        /** From the last NODE on, so that the parts of each are measured before it. */
        private void measure() {
            for (int place = nodes - 1; place >= 0; place--) {
                int parts = at(PARTS, at(codes, place));
                int next = place + 1;
                int highest = 0;
                for (int part = 0; part < parts; part++) {
                    highest = Math.max(highest, at(heights, next));
                    next += at(spans, next);
                }
                put(spans, place, next - place);
                put(heights, place, highest + 1);
            }
            levels = nodes == 0 ? 0 : at(heights, 0);
        }
    }

    /** The SKETCH, with all that is missing to make it a TREE. */
    private static final class Sketch {
        private final Tree row = new Tree();
        /** What is missing, the next one last: how many NODES each needs at least, and its level. */
        private final int[] needs = new int[MOST_NODES];
        private final int[] levels = new int[MOST_NODES];
        private int missing;
        /** How many NODES the TREE will have at least. */
        private int least;

        Sketch() {
            clear();
        }

        void clear() {
            row.nodes = 0;
            missing = 0;
            least = 0;
            miss(true, 1);
        }

        boolean accepts(int code) {
            int next = missing - 1;
            if (next < 0 || at(needs, next) != needOf(code <= CHOICE)) {
                return false;
            }
            int size = least - at(needs, next) + 1;
            int parts = at(PARTS, code);
            for (int part = 0; part < parts; part++) {
                boolean number = isNumberPart(code, part);
                size += needOf(number);
                // a CONDITION is never the lowest NODE: it has one level more beneath it
                if (at(levels, next) + (number ? 1 : 2) > MOST_LEVELS) {
                    return false;
                }
            }
            return size <= MOST_NODES;
        }

        void take(int code, int value) {
            int level = at(levels, missing - 1);
            least += 1 - at(needs, missing - 1);
            missing--;
            row.append(code, value);
            for (int part = at(PARTS, code) - 1; part >= 0; part--) {
                miss(isNumberPart(code, part), level + 1);
            }
        }

        private void miss(boolean number, int level) {
            put(needs, missing, needOf(number));
            put(levels, missing, level);
            missing++;
            least += needOf(number);
        }

        private static int needOf(boolean number) {
            return number ? 1 : 3;
        }
    }

    /** Reckons what TREES give; a CONDITION gives 1 if it holds, otherwise 0. */
    private static final class Reckoner {
        private final int[] inputs = new int[INPUTS];
        private final int[] results = new int[MOST_NODES];

        void setInputs(int a, int b, int c) {
            put(inputs, 0, a);
            put(inputs, 1, b);
            put(inputs, 2, c);
        }

        /** From the last NODE there on, so that the parts of each are reckoned before it. */
        int resultOf(Tree tree, int place) {
            for (int lower = place + at(tree.spans, place) - 1; lower >= place; lower--) {
                int code = at(tree.codes, lower);
                int value = at(tree.values, lower);
                int first = lower + 1;
                int second = first + at(tree.spans, first);
                int third = second + at(tree.spans, second);
                int result;
                if (code == CONSTANT) {
                    result = value;
                } else if (code == INPUT) {
                    result = at(inputs, value);
                } else if (code == CHOICE) {
                    result = at(results, at(results, first) == 1 ? second : third);
                } else {
                    result = pairResult(code, at(results, first), at(results, second));
                }
                put(results, lower, limited(result));
            }
            return at(results, place);
        }

        /** Of NOT there is no second one, and it is not looked at. */
        private static int pairResult(int code, int first, int second) {
            switch (code) {
                case SUM:
                    return first + second;
                case DIFFERENCE:
                    return first - second;
                case PRODUCT:
                    return first * second;
                case QUOTIENT:
                    return second == 0 ? first : first / second;
                case LESSER:
                case BOTH:
                    return first < second ? first : second;
                case GREATER:
                case EITHER:
                    return first > second ? first : second;
                case BELOW:
                    return first < second ? 1 : 0;
                case SAME:
                    return first == second ? 1 : 0;
                case NOT:
                    return 1 - first;
                default:
                    return 0;
            }
        }

        private static int limited(int number) {
            if (number > LARGEST_RESULT) {
                return LARGEST_RESULT;
            }
            return number < -LARGEST_RESULT ? -LARGEST_RESULT : number;
        }
    }

    /** The CASES, the WAY and the WEIGHT. */
    private static final class Judge {
        private final Reckoner reckoner = new Reckoner();
        private final int[] firsts = new int[MOST_CASES];
        private final int[] seconds = new int[MOST_CASES];
        private final int[] thirds = new int[MOST_CASES];
        private final int[] dues = new int[MOST_CASES];
        private int cases;
        private int way;
        private int weight = 1;

        void add(int a, int b, int c, int due) {
            put(firsts, cases, a);
            put(seconds, cases, b);
            put(thirds, cases, c);
            put(dues, cases, due);
            cases++;
        }

        /** The ERROR of what is at a PLACE, taken as a TREE. */
        int errorOf(Tree tree, int place) {
            int sum = 0;
            for (int number = 0; number < cases; number++) {
                reckoner.setInputs(at(firsts, number), at(seconds, number), at(thirds, number));
                int difference = reckoner.resultOf(tree, place) - at(dues, number);
                sum += difference < 0 ? -difference : difference;
            }
            return sum;
        }

        int meritOf(Tree tree) {
            int error = errorOf(tree, 0);
            return way == BY_ERROR_AND_SIZE ? error + weight * tree.nodes : error;
        }

        int hitsOf(Tree tree) {
            int found = 0;
            for (int number = 0; number < cases; number++) {
                reckoner.setInputs(at(firsts, number), at(seconds, number), at(thirds, number));
                if (reckoner.resultOf(tree, 0) == at(dues, number)) {
                    found++;
                }
            }
            return found;
        }
    }

    /** Which TREES of a GROVE are BETTER than which, as it was when they were ranked. */
    private static final class Ranking {
        private final int[] merits = new int[MOST_TREES];
        /** Only where the WAY looks at the SIZE of TREES with the same MERIT, otherwise 0. */
        private final int[] sizes = new int[MOST_TREES];
        private final int[] order = new int[MOST_TREES];

        void rank(Grove grove, Judge judge) {
            for (int number = 0; number < grove.count; number++) {
                Tree tree = grove.tree(number);
                put(merits, number, judge.meritOf(tree));
                put(sizes, number, judge.way == BY_ERROR_THEN_SIZE ? tree.nodes : 0);
                insert(number);
            }
        }

        int withRank(int rank) {
            return at(order, rank);
        }

        boolean isBetter(int number, int other) {
            if (at(merits, number) != at(merits, other)) {
                return at(merits, number) < at(merits, other);
            }
            if (at(sizes, number) != at(sizes, other)) {
                return at(sizes, number) < at(sizes, other);
            }
            return number < other;
        }

        private void insert(int number) {
            int rank = number;
            while (rank > 0 && isBetter(number, at(order, rank - 1))) {
                put(order, rank, at(order, rank - 1));
                rank--;
            }
            put(order, rank, number);
        }
    }

    /** The TOLD numbers that wait, and LUCK. */
    private static final class Draws {
        private final int[] told = new int[MOST_TOLD];
        private int waiting;
        private int luck;

        void add(int number) {
            put(told, waiting, number);
            waiting++;
        }

        int below(int n) {
            if (n < 1) {
                return 0;
            }
            if (waiting > 0) {
                return takeFirst() % n;
            }
            luck = (luck * 4621 + 2777) % LUCKS;
            return luck * n / LUCKS;
        }

        void copyFrom(Draws other) {
            for (int index = 0; index < other.waiting; index++) {
                put(told, index, at(other.told, index));
            }
            waiting = other.waiting;
            luck = other.luck;
        }

        private int takeFirst() {
            int first = at(told, 0);
            waiting--;
            for (int index = 0; index < waiting; index++) {
                put(told, index, at(told, index + 1));
            }
            return first;
        }
    }

    /** The GROVE, with what breeding draws from and counts. */
    private static final class Grove {
        private final Draws draws = new Draws();
        /** Answered where there is no TREE, so that a TREE is never null. */
        private final Tree nothing = new Tree();
        private Tree[] trees = new Tree[MOST_TREES];
        private Tree[] youngTrees = new Tree[MOST_TREES];
        private int count;
        private int generations;
        private int misses;

        Grove() {
            for (int number = 0; number < trees.length; number++) {
                trees[number] = new Tree();
            }
            for (int number = 0; number < youngTrees.length; number++) {
                youngTrees[number] = new Tree();
            }
        }

        Tree tree(int number) {
            return treeOf(trees, number);
        }

        Tree youngTree(int number) {
            return treeOf(youngTrees, number);
        }

        void add(Tree planted) {
            if (count < MOST_TREES) {
                tree(count).copyFrom(planted);
                count++;
            }
        }

        void remove(int number) {
            for (int next = number + 1; next < count; next++) {
                tree(next - 1).copyFrom(tree(next));
            }
            count--;
        }

        boolean hasEarlierTwin(int number) {
            Tree tree = tree(number);
            for (int earlier = 0; earlier < number; earlier++) {
                Tree other = tree(earlier);
                if (other.nodes == tree.nodes && other.sameNodes(tree) == tree.nodes) {
                    return true;
                }
            }
            return false;
        }

        void replaceByYoung() {
            Tree[] old = trees;
            trees = youngTrees;
            youngTrees = old;
            generations++;
        }

        void copyFrom(Grove other) {
            draws.copyFrom(other.draws);
            for (int number = 0; number < other.count; number++) {
                tree(number).copyFrom(other.tree(number));
            }
            count = other.count;
            generations = other.generations;
            misses = other.misses;
        }

        private Tree treeOf(Tree[] row, int number) {
            if (number < 0 || number >= row.length) {
                return nothing;
            }
            Tree found = row[number];
            return found == null ? nothing : found;
        }
    }

    /** Makes new generations by the RATES, the TOURNAMENT and the ELITE. */
    private static final class Breeder {
        private final Ranking ranking = new Ranking();
        private int crossing = 70;
        private int changing = 20;
        private int hoisting = 5;
        private int tournament = 2;
        private int elite = 1;

        /** Breeds a GROVE; answers the ERROR of its best TREE then. */
        int errorAfter(int generations, Grove grove, Judge judge) {
            for (int done = 0; done < generations; done++) {
                ranking.rank(grove, judge);
                int kept = Math.min(elite, grove.count);
                for (int rank = 0; rank < kept; rank++) {
                    grove.youngTree(rank).copyFrom(grove.tree(ranking.withRank(rank)));
                }
                for (int number = kept; number < grove.count; number++) {
                    makeYoung(grove, grove.youngTree(number));
                }
                grove.replaceByYoung();
            }
            ranking.rank(grove, judge);
            return judge.errorOf(grove.tree(ranking.withRank(0)), 0);
        }

        private void makeYoung(Grove grove, Tree young) {
            int rate = grove.draws.below(100);
            Tree chosen = choose(grove);
            young.copyFrom(chosen);
            if (rate < crossing) {
                crossYoung(grove, young, chosen, choose(grove));
            } else if (rate < crossing + changing) {
                changeYoung(grove.draws, young);
            } else if (rate < crossing + changing + hoisting) {
                hoistYoung(grove.draws, young);
            }
        }

        private Tree choose(Grove grove) {
            int best = grove.draws.below(grove.count);
            for (int drawn = 1; drawn < tournament; drawn++) {
                int number = grove.draws.below(grove.count);
                if (ranking.isBetter(number, best)) {
                    best = number;
                }
            }
            return grove.tree(best);
        }

        private static void crossYoung(Grove grove, Tree young, Tree chosen, Tree other) {
            int place = grove.draws.below(chosen.nodes);
            boolean number = chosen.isNumber(place);
            int fitting = other.countOfType(number);
            if (fitting == 0) {
                grove.misses++;
                return;
            }
            int otherPlace = other.placeOfType(number, grove.draws.below(fitting));
            if (!young.becomeCrossed(chosen, place, other, otherPlace)) {
                grove.misses++;
                young.copyFrom(chosen);
            }
        }

        private static void changeYoung(Draws draws, Tree young) {
            int place = draws.below(young.nodes);
            int code = young.code(place);
            if (code == CONSTANT) {
                young.write(place, CONSTANT, draws.below(2 * LARGEST_VALUE + 1) - LARGEST_VALUE);
            } else if (code == INPUT) {
                young.write(place, INPUT, draws.below(INPUTS));
            } else {
                young.write(place, at(KIN_STARTS, code) + draws.below(at(KIN_COUNTS, code)), 0);
            }
        }

        private static void hoistYoung(Draws draws, Tree young) {
            int index = draws.below(young.countOfType(true));
            young.keepPart(0, young.placeOfType(true, index));
        }
    }

    /** SIMPLIFIES TREES; the letters are those of the document. */
    private static final class Simplifier {
        private static final int NONE = -1;
        private static final int MOST_STEPS = MOST_NODES * (MOST_NODES + 1);

        private final Reckoner reckoner = new Reckoner();

        /** Looks from the root on again after each change; a change takes at least one NODE away. */
        void finish(Tree tree) {
            int place = 0;
            for (int step = 0; step < MOST_STEPS && place < tree.nodes; step++) {
                place = changeAt(tree, place) ? 0 : place + 1;
            }
        }

        /** (a) is looked for first; of the others no two can be done in different ways at one PLACE. */
        private boolean changeAt(Tree tree, int place) {
            if (isFoldable(tree, place)) {
                int result = reckoner.resultOf(tree, place);
                if (result >= -LARGEST_VALUE && result <= LARGEST_VALUE) {
                    tree.makeConstant(place, result);
                    return true;
                }
            }
            int part = partThatStays(tree, place);
            if (part != NONE) {
                tree.keepPart(place, part);
                return true;
            }
            if (isNothing(tree, place)) {
                tree.makeConstant(place, 0);
                return true;
            }
            return false;
        }

        /** (a), but for its limits. */
        private static boolean isFoldable(Tree tree, int place) {
            return tree.isNumber(place) && tree.span(place) > 1 && !tree.hasInput(place);
        }

        /** (b), (c), (e), (f): the PLACE of what a NODE becomes. */
        private static int partThatStays(Tree tree, int place) {
            int first = place + 1;
            int second = tree.behind(first);
            switch (tree.code(place)) {
                case SUM:
                    return tree.isConstant(second, 0) ? first : tree.isConstant(first, 0) ? second : NONE;
                case DIFFERENCE:
                    return tree.isConstant(second, 0) ? first : NONE;
                case PRODUCT:
                    return tree.isConstant(second, 1) ? first : tree.isConstant(first, 1) ? second : NONE;
                case QUOTIENT:
                    return tree.isConstant(second, 1) ? first : NONE;
                case LESSER:
                case GREATER:
                case BOTH:
                case EITHER:
                    return tree.sameParts(first, second) ? first : NONE;
                case CHOICE:
                    return tree.sameParts(second, tree.behind(second)) ? second : NONE;
                case NOT:
                    return tree.code(first) == NOT ? first + 1 : NONE;
                default:
                    return NONE;
            }
        }

        /** (d), (g): whether a NODE becomes the CONSTANT 0. */
        private static boolean isNothing(Tree tree, int place) {
            int first = place + 1;
            int second = tree.behind(first);
            int code = tree.code(place);
            return code == DIFFERENCE && tree.sameParts(first, second)
                    || code == PRODUCT && (tree.isConstant(first, 0) || tree.isConstant(second, 0));
        }
    }
}
