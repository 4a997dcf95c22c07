import java.util.ArrayList;
import java.util.List;

/**
 * The document once more, in another and plainer form: TREES are linked NODES that never change, and nothing is kept
 * that can be asked anew. ModelTest compares Barnacle with it.
 */
final class Model {
    private record Node(int code, int value, List<Node> parts) {
        int size() {
            int sum = 1;
            for (Node part : parts) {
                sum += part.size();
            }
            return sum;
        }

        int depth() {
            int most = 0;
            for (Node part : parts) {
                most = Math.max(most, part.depth());
            }
            return most + 1;
        }

        boolean number() {
            return code < 9;
        }

        boolean isConstant(int wanted) {
            return code == 0 && value == wanted;
        }

        boolean hasInput() {
            return code == 1 || parts.stream().anyMatch(Node::hasInput);
        }

        List<Node> row() {
            List<Node> row = new ArrayList<>();
            row.add(this);
            parts.forEach(part -> row.addAll(part.row()));
            return row;
        }

        Node with(int place, Node put) {
            if (place == 0) {
                return put;
            }
            List<Node> changed = new ArrayList<>();
            int start = 1;
            for (Node part : parts) {
                boolean here = place >= start && place < start + part.size();
                changed.add(here ? part.with(place - start, put) : part);
                start += part.size();
            }
            return new Node(code, value, changed);
        }

        int gives(int... in) {
            int x = !parts.isEmpty() ? parts.get(0).gives(in) : 0;
            int y = parts.size() > 1 ? parts.get(1).gives(in) : 0;
            int raw = switch (code) {
                case 0 -> value;
                case 1 -> in[value];
                case 2 -> x + y;
                case 3 -> x - y;
                case 4 -> x * y;
                case 5 -> y == 0 ? x : x / y;
                case 6 -> Math.min(x, y);
                case 7 -> Math.max(x, y);
                case 8 -> x == 1 ? y : parts.get(2).gives(in);
                case 9 -> x < y ? 1 : 0;
                case 10 -> x == y ? 1 : 0;
                case 11 -> x & y;
                case 12 -> x | y;
                default -> 1 - x;
            };
            return Math.max(-9999, Math.min(9999, raw));
        }
    }

    private record Case(int a, int b, int c, int due) {
    }

    private record Coded(int code, int value) {
    }

    /** The types beneath each code: N a NUMBER, C a CONDITION. */
    private static final String[] BENEATH = {"", "", "NN", "NN", "NN", "NN", "NN", "NN", "CNN", "NN", "NN", "CC", "CC", "C"};

    private List<Coded> sketch = new ArrayList<>();
    private List<Node> grove = new ArrayList<>();
    private final List<Case> cases = new ArrayList<>();
    private List<Integer> told = new ArrayList<>();
    private int way = 0, weight = 1, crossing = 70, changing = 20, hoisting = 5, tournament = 2, elite = 1;
    private int luck = 0, misses = 0, generations = 0;

    private static Node constant(int value) {
        return new Node(0, value, List.of());
    }

    /** Makes a TREE of the row, with the least that there can be in place of what is missing; null if a type is wrong. */
    private static Node filled(List<Coded> row, int[] next, char type) {
        if (next[0] >= row.size()) {
            return type == 'N' ? constant(0) : new Node(9, 0, List.of(constant(0), constant(0)));
        }
        Coded here = row.get(next[0]++);
        if ((here.code < 9) != (type == 'N')) {
            return null;
        }
        List<Node> parts = new ArrayList<>();
        for (char beneath : BENEATH[here.code].toCharArray()) {
            Node part = filled(row, next, beneath);
            if (part == null) {
                return null;
            }
            parts.add(part);
        }
        return new Node(here.code, here.value, parts);
    }

    private static int missingIn(List<Coded> row) {
        int missing = 1;
        for (Coded coded : row) {
            missing += BENEATH[coded.code].length() - 1;
        }
        return missing;
    }

    private static boolean allowed(Node tree) {
        return tree != null && tree.number() && tree.size() <= 40 && tree.depth() <= 8;
    }

    private static void argument(boolean fine) {
        if (!fine) {
            throw new IllegalArgumentException();
        }
    }

    private static void state(boolean fine) {
        if (!fine) {
            throw new IllegalStateException();
        }
    }

    private static void node(int code, int value) {
        argument(code >= 0 && code <= 13);
        argument(code != 0 || Math.abs((long) value) <= 99);
        argument(code != 1 || value >= 0 && value <= 2);
    }

    private static void inputs(int... in) {
        for (int given : in) {
            argument(Math.abs((long) given) <= 99);
        }
    }

    private Node tree(int tree) {
        if (tree < 0 || tree >= grove.size()) {
            throw new IndexOutOfBoundsException();
        }
        return grove.get(tree);
    }

    private Node part(int tree, int place) {
        List<Node> row = tree(tree).row();
        if (place < 0 || place >= row.size()) {
            throw new IndexOutOfBoundsException();
        }
        return row.get(place);
    }

    int sketch(int code, int value) {
        node(code, value);
        List<Coded> longer = new ArrayList<>(sketch);
        longer.add(new Coded(code, code < 2 ? value : 0));
        state(missingIn(sketch) > 0);
        state(allowed(filled(longer, new int[1], 'N')));
        sketch = longer;
        return missingIn(sketch);
    }

    int erase() {
        int had = sketch.size();
        sketch = new ArrayList<>();
        return had;
    }

    int plant() {
        state(missingIn(sketch) == 0 && grove.size() < 16);
        grove.add(filled(sketch, new int[1], 'N'));
        sketch = new ArrayList<>();
        return grove.size() - 1;
    }

    int fell(int tree) {
        int felled = tree(tree).size();
        grove.remove(tree);
        return felled;
    }

    int addCase(int a, int b, int c, int due) {
        inputs(a, b, c);
        argument(Math.abs((long) due) <= 9999);
        state(cases.size() < 12);
        cases.add(new Case(a, b, c, due));
        return cases.size() - 1;
    }

    int setWay(int newWay, int newWeight) {
        argument(newWay >= 0 && newWay <= 2 && newWeight >= 0 && newWeight <= 99);
        int before = way;
        way = newWay;
        weight = newWeight;
        return before;
    }

    private Node crossed(Node first, int place, Node other, int otherPlace) {
        Node out = first.row().get(place);
        Node in = other.row().get(otherPlace);
        if (out.number() != in.number()) {
            return null;
        }
        Node made = first.with(place, in);
        return allowed(made) ? made : null;
    }

    int cross(int tree, int place, int other, int otherPlace) {
        part(tree, place);
        part(other, otherPlace);
        Node made = crossed(tree(tree), place, tree(other), otherPlace);
        return made == null ? -1 : replace(tree, made);
    }

    private int replace(int tree, Node made) {
        grove.set(tree, made);
        return made.size();
    }

    int hoist(int tree, int place) {
        Node kept = part(tree, place);
        return kept.number() ? replace(tree, kept) : -1;
    }

    int recode(int tree, int place, int code, int value) {
        Node old = part(tree, place);
        node(code, value);
        if (old.number() != code < 9 || !BENEATH[old.code].equals(BENEATH[code])) {
            return -1;
        }
        replace(tree, tree(tree).with(place, new Node(code, code < 2 ? value : 0, old.parts)));
        return old.code;
    }

    int wither(int tree, int place, int value) {
        Node old = part(tree, place);
        argument(Math.abs((long) value) <= 99);
        return old.number() ? replace(tree, tree(tree).with(place, constant(value))) : -1;
    }

    int simplify(int tree) {
        Node before = tree(tree);
        Node now = before;
        for (Node next = simpler(now); next != null; next = simpler(now)) {
            now = next;
        }
        replace(tree, now);
        return before.size() - now.size();
    }

    private static Node simpler(Node tree) {
        List<Node> row = tree.row();
        for (int place = 0; place < row.size(); place++) {
            Node put = simplerNode(row.get(place));
            if (put != null) {
                return tree.with(place, put);
            }
        }
        return null;
    }

    private static Node simplerNode(Node n) {
        if (n.parts.isEmpty()) {
            return null;
        }
        int code = n.code;
        if (n.number() && !n.hasInput() && Math.abs(n.gives(0, 0, 0)) <= 99) {
            return constant(n.gives(0, 0, 0));
        }
        Node first = n.parts.get(0);
        Node second = n.parts.size() > 1 ? n.parts.get(1) : null;
        if ((code == 2 || code == 3) && second.isConstant(0) || (code == 4 || code == 5) && second.isConstant(1)) {
            return first;
        }
        if (code == 2 && first.isConstant(0) || code == 4 && first.isConstant(1)) {
            return second;
        }
        if (code == 3 && first.equals(second)) {
            return constant(0);
        }
        if ((code == 6 || code == 7 || code == 11 || code == 12) && first.equals(second)) {
            return first;
        }
        if (code == 8 && second.equals(n.parts.get(2))) {
            return second;
        }
        if (code == 13 && first.code == 13) {
            return first.parts.get(0);
        }
        if (code == 4 && (first.isConstant(0) || second.isConstant(0))) {
            return constant(0);
        }
        return null;
    }

    int setRates(int newCrossing, int newChanging, int newHoisting) {
        for (int rate : new int[] {newCrossing, newChanging, newHoisting}) {
            argument(rate >= 0 && rate <= 100);
        }
        argument(newCrossing + newChanging + newHoisting <= 100);
        int before = crossing;
        crossing = newCrossing;
        changing = newChanging;
        hoisting = newHoisting;
        return before;
    }

    int setChoosing(int newTournament, int newElite) {
        argument(newTournament >= 1 && newTournament <= 5 && newElite >= 0 && newElite <= 4);
        int before = tournament;
        tournament = newTournament;
        elite = newElite;
        return before;
    }

    int setLuck(int newLuck) {
        argument(newLuck >= 0 && newLuck <= 9999);
        int before = luck;
        luck = newLuck;
        return before;
    }

    int tell(int number) {
        argument(number >= 0);
        state(told.size() < 40);
        told.add(number);
        return told.size();
    }

    int breed(int many) {
        argument(many >= 1 && many <= 10);
        state(!grove.isEmpty());
        for (int done = 0; done < many; done++) {
            grove = nextGeneration();
            generations++;
        }
        return errorOf(grove.get(ranking().get(0)));
    }

    private List<Node> nextGeneration() {
        List<Node> made = new ArrayList<>();
        List<Integer> ranks = ranking();
        for (int rank = 0; rank < elite && rank < grove.size(); rank++) {
            made.add(grove.get(ranks.get(rank)));
        }
        while (made.size() < grove.size()) {
            made.add(young());
        }
        return made;
    }

    private Node young() {
        int r = draw(100);
        Node first = chosen();
        Node made = first;
        if (r < crossing) {
            Node other = chosen();
            int place = draw(first.size());
            List<Integer> fitting = placesOf(other, first.row().get(place).number());
            made = fitting.isEmpty() ? null : crossed(first, place, other, fitting.get(draw(fitting.size())));
        } else if (r < crossing + changing) {
            int place = draw(first.size());
            made = first.with(place, changed(first.row().get(place)));
        } else if (r < crossing + changing + hoisting) {
            List<Integer> numbers = placesOf(first, true);
            made = first.row().get(numbers.get(draw(numbers.size())));
        }
        if (made == null) {
            misses++;
            return first;
        }
        return made;
    }

    private Node changed(Node old) {
        if (old.code == 0) {
            return constant(draw(199) - 99);
        }
        if (old.code == 1) {
            return new Node(1, draw(3), List.of());
        }
        List<Integer> possible = new ArrayList<>();
        for (int code = 2; code < 14; code++) {
            if (BENEATH[code].equals(BENEATH[old.code]) && code < 9 == old.number()) {
                possible.add(code);
            }
        }
        return new Node(possible.get(draw(possible.size())), 0, old.parts);
    }

    private static List<Integer> placesOf(Node tree, boolean number) {
        List<Node> row = tree.row();
        List<Integer> found = new ArrayList<>();
        for (int place = 0; place < row.size(); place++) {
            if (row.get(place).number() == number) {
                found.add(place);
            }
        }
        return found;
    }

    private Node chosen() {
        List<Integer> ranks = ranking();
        int best = grove.size();
        for (int drawn = 0; drawn < tournament; drawn++) {
            best = Math.min(best, ranks.indexOf(draw(grove.size())));
        }
        return grove.get(ranks.get(best));
    }

    private int draw(int n) {
        if (!told.isEmpty()) {
            return told.remove(0) % n;
        }
        luck = (luck * 4621 + 2777) % 10000;
        return luck * n / 10000;
    }

    private List<Integer> ranking() {
        List<Integer> order = new ArrayList<>();
        for (int number = 0; number < grove.size(); number++) {
            order.add(number);
        }
        order.sort((x, y) -> {
            int byMerit = Integer.compare(meritOf(grove.get(x)), meritOf(grove.get(y)));
            int bySize = way == 2 ? Integer.compare(grove.get(x).size(), grove.get(y).size()) : 0;
            return byMerit != 0 ? byMerit : bySize != 0 ? bySize : Integer.compare(x, y);
        });
        return order;
    }

    private int errorOf(Node tree) {
        return cases.stream().mapToInt(k -> Math.abs(tree.gives(k.a, k.b, k.c) - k.due)).sum();
    }

    private int meritOf(Node tree) {
        return errorOf(tree) + (way == 1 ? weight * tree.size() : 0);
    }

    int sketched() {
        return sketch.size();
    }

    int trees() {
        return grove.size();
    }

    int cases() {
        return cases.size();
    }

    int size(int tree) {
        return tree(tree).size();
    }

    int depth(int tree) {
        return tree(tree).depth();
    }

    int codeAt(int tree, int place) {
        return part(tree, place).code;
    }

    int valueAt(int tree, int place) {
        return part(tree, place).value;
    }

    int sizeAt(int tree, int place) {
        return part(tree, place).size();
    }

    int above(int tree, int place) {
        part(tree, place);
        return aboveIn(tree(tree), place);
    }

    private static int aboveIn(Node node, int place) {
        int start = 1;
        for (Node part : node.parts) {
            if (place == start) {
                return 0;
            }
            if (place < start + part.size() && place > start) {
                return start + aboveIn(part, place - start);
            }
            start += part.size();
        }
        return -1;
    }

    int gives(int tree, int a, int b, int c) {
        Node asked = tree(tree);
        inputs(a, b, c);
        return asked.gives(a, b, c);
    }

    int error(int tree) {
        return errorOf(tree(tree));
    }

    int merit(int tree) {
        return meritOf(tree(tree));
    }

    int hits(int tree) {
        Node asked = tree(tree);
        return (int) cases.stream().filter(k -> asked.gives(k.a, k.b, k.c) == k.due).count();
    }

    int ranked(int rank) {
        if (rank < 0 || rank >= grove.size()) {
            throw new IndexOutOfBoundsException();
        }
        return ranking().get(rank);
    }

    int different() {
        return (int) grove.stream().distinct().count();
    }

    int alike(int tree, int other) {
        List<Node> one = tree(tree).row();
        List<Node> two = tree(other).row();
        int same = 0;
        while (same < one.size() && same < two.size() && one.get(same).code == two.get(same).code
                && one.get(same).value == two.get(same).value) {
            same++;
        }
        return same;
    }

    double meanSize() {
        return grove.stream().mapToInt(Node::size).average().orElse(0);
    }

    int generations() {
        return generations;
    }

    int misses() {
        return misses;
    }

    int luck() {
        return luck;
    }

    int waiting() {
        return told.size();
    }

    int errorCrossed(int tree, int place, int other, int otherPlace) {
        part(tree, place);
        part(other, otherPlace);
        Node made = crossed(tree(tree), place, tree(other), otherPlace);
        return made == null ? -1 : errorOf(made);
    }

    int bestHoist(int tree) {
        List<Node> row = tree(tree).row();
        int best = 0;
        for (int place : placesOf(tree(tree), true)) {
            Node here = row.get(place);
            Node there = row.get(best);
            int byError = Integer.compare(errorOf(here), errorOf(there));
            if (byError < 0 || byError == 0 && here.size() < there.size()) {
                best = place;
            }
        }
        return best;
    }

    int errorBred(int many) {
        List<Node> oldGrove = grove;
        List<Integer> oldTold = new ArrayList<>(told);
        int oldLuck = luck;
        int oldMisses = misses;
        int oldGenerations = generations;
        int answer = breed(many);
        grove = oldGrove;
        told = oldTold;
        luck = oldLuck;
        misses = oldMisses;
        generations = oldGenerations;
        return answer;
    }

    long digest() {
        List<Integer> xs = new ArrayList<>(List.of(sketched(), trees(), cases(), generations(), misses(), luck(),
                waiting(), different()));
        for (Node tree : grove) {
            xs.addAll(List.of(tree.size(), tree.depth(), errorOf(tree), meritOf(tree)));
            xs.add(hits(grove.indexOf(tree)));
            for (Node node : tree.row()) {
                xs.add(node.code);
                xs.add(node.value);
            }
        }
        xs.addAll(ranking());
        long d = 58042;
        for (int x : xs) {
            d = d * 31 + x;
        }
        return d;
    }
}
