import java.util.ArrayList;
import java.util.Arrays;
import java.util.HashSet;
import java.util.List;
import java.util.Set;
import java.util.TreeMap;
import java.util.TreeSet;

/** The document in its plainest form, without a thought for speed: what the class is held to. */
public final class Oracle {
    private static final class Token {
        final int[] values;
        int sentence;
        int text;

        Token(int... values) {
            this.values = values;
        }
    }

    /** Where a way through a part has come to: the place behind its row, and the labels. */
    private record Way(int place, List<Integer> labels) {
        Way at(int newPlace) {
            return new Way(newPlace, labels);
        }

        Way with(int label, int token) {
            List<Integer> changed = new ArrayList<>(labels);
            changed.set(label, token);
            return new Way(place, changed);
        }
    }

    private abstract static class Node {
        abstract int tests();

        abstract Set<Way> ways(List<Token> row, int limit, Way from);

        boolean isTest() {
            return false;
        }
    }

    private abstract static class TestNode extends Node {
        final Set<Integer> labels = new TreeSet<>();

        abstract boolean fits(List<Token> row, Way from);

        @Override
        int tests() {
            return 1;
        }

        @Override
        boolean isTest() {
            return true;
        }

        @Override
        Set<Way> ways(List<Token> row, int limit, Way from) {
            Set<Way> ways = new HashSet<>();
            if (from.place < limit && fits(row, from)) {
                Way way = from.at(from.place + 1);
                for (int label : labels) {
                    way = way.with(label, from.place);
                }
                ways.add(way);
            }
            return ways;
        }
    }

    private static Node chainOf(Node first, Node second) {
        return new Node() {
            @Override
            int tests() {
                return first.tests() + second.tests();
            }

            @Override
            Set<Way> ways(List<Token> row, int limit, Way from) {
                Set<Way> ways = new HashSet<>();
                for (Way way : first.ways(row, limit, from)) {
                    ways.addAll(second.ways(row, limit, way));
                }
                return ways;
            }
        };
    }

    private static Node eitherOf(Node first, Node second) {
        return new Node() {
            @Override
            int tests() {
                return first.tests() + second.tests();
            }

            @Override
            Set<Way> ways(List<Token> row, int limit, Way from) {
                Set<Way> ways = new HashSet<>(first.ways(row, limit, from));
                ways.addAll(second.ways(row, limit, from));
                return ways;
            }
        };
    }

    private static Node repeatOf(Node part, int least, int most) {
        return new Node() {
            @Override
            int tests() {
                return part.tests() * most;
            }

            @Override
            Set<Way> ways(List<Token> row, int limit, Way from) {
                Set<Way> ways = new HashSet<>();
                Set<Way> now = Set.of(from);
                for (int times = 0; times <= most; times++) {
                    if (times >= least) {
                        ways.addAll(now);
                    }
                    Set<Way> next = new HashSet<>();
                    for (Way way : now) {
                        next.addAll(part.ways(row, limit, way));
                    }
                    now = next;
                }
                return ways;
            }
        };
    }

    private static TestNode bothOf(TestNode first, TestNode second) {
        TestNode node = new TestNode() {
            @Override
            boolean fits(List<Token> row, Way from) {
                return first.fits(row, from) && second.fits(row, from);
            }
        };
        node.labels.addAll(first.labels);
        node.labels.addAll(second.labels);
        return node;
    }

    private final List<List<Token>> sides = List.of(new ArrayList<>(), new ArrayList<>());
    private final int[] ended = new int[2];
    private final Set<List<Integer>> pairs = new HashSet<>();
    private final List<Node> pile = new ArrayList<>();
    private final List<Node> patterns = new ArrayList<>();
    /** Matches as 100 times the first place and the length. */
    private final List<TreeSet<Integer>> results = new ArrayList<>();
    private final int[] resultSides = new int[8];

    public Oracle() {
        for (int i = 0; i < 8; i++) {
            results.add(null);
        }
    }

    private static void index(boolean isFine) {
        if (!isFine) {
            throw new IndexOutOfBoundsException();
        }
    }

    private static void argument(boolean isFine) {
        if (!isFine) {
            throw new IllegalArgumentException();
        }
    }

    private static void state(boolean isFine) {
        if (!isFine) {
            throw new IllegalStateException();
        }
    }

    private static boolean in(int number, int least, int most) {
        return least <= number && number <= most;
    }

    public int token(int side, int word, int kind, int root) {
        index(in(side, 0, 1));
        argument(in(word, 0, 99) && in(kind, 0, 9) && in(root, 0, 49));
        List<Token> row = sides.get(side);
        state(row.size() < 40);
        Token token = new Token(word, kind, root);
        if (!row.isEmpty()) {
            Token ahead = row.get(row.size() - 1);
            token.sentence = ahead.sentence + (ended[side] > 0 ? 1 : 0);
            token.text = ahead.text + (ended[side] > 1 ? 1 : 0);
        }
        ended[side] = 0;
        row.add(token);
        return row.size() - 1;
    }

    public int end(int side, boolean isText) {
        index(in(side, 0, 1));
        state(!sides.get(side).isEmpty());
        ended[side] = Math.max(ended[side], isText ? 2 : 1);
        return sides.get(side).size();
    }

    private boolean isSentence(int side, int number) {
        return sides.get(side).stream().anyMatch(token -> token.sentence == number);
    }

    public int align(int first, int second) {
        index(isSentence(0, first) && isSentence(1, second));
        pairs.add(List.of(first, second));
        return pairs.size();
    }

    public int tokens(int side) {
        index(in(side, 0, 1));
        return sides.get(side).size();
    }

    public int sentenceOf(int side, int place) {
        index(in(side, 0, 1) && in(place, 0, sides.get(side).size() - 1));
        return sides.get(side).get(place).sentence;
    }

    public int occurs(int side, int attribute, int value) {
        index(in(side, 0, 1));
        argument(in(attribute, 0, 2));
        return (int) sides.get(side).stream().filter(t -> t.values[attribute] == value).count();
    }

    private int pileTests() {
        return pile.stream().mapToInt(Node::tests).sum();
    }

    private int putTest(TestNode node) {
        state(pileTests() < 8);
        pile.add(node);
        return pile.size();
    }

    public int test(int attribute, int value, boolean isOther) {
        argument(in(attribute, 0, 2) && in(value, 0, 99));
        return putTest(new TestNode() {
            @Override
            boolean fits(List<Token> row, Way from) {
                return row.get(from.place).values[attribute] == value != isOther;
            }
        });
    }

    public int any() {
        return putTest(new TestNode() {
            @Override
            boolean fits(List<Token> row, Way from) {
                return true;
            }
        });
    }

    public int same(int attribute, int label) {
        argument(in(attribute, 0, 2) && in(label, 0, 2));
        return putTest(new TestNode() {
            @Override
            boolean fits(List<Token> row, Way from) {
                int set = from.labels.get(label);
                return set >= 0
                        && row.get(set).values[attribute] == row.get(from.place).values[attribute];
            }
        });
    }

    private Node top(int over) {
        state(pile.size() > over);
        return pile.get(pile.size() - 1 - over);
    }

    private int replace(int count, Node node) {
        for (int i = 0; i < count; i++) {
            pile.remove(pile.size() - 1);
        }
        pile.add(node);
        return pile.size();
    }

    public int label(int label) {
        argument(in(label, 0, 2));
        state(top(0).isTest());
        ((TestNode) top(0)).labels.add(label);
        return 0;
    }

    public int both() {
        state(top(1).isTest() && top(0).isTest());
        return replace(2, bothOf((TestNode) top(1), (TestNode) top(0)));
    }

    public int chain() {
        return replace(2, chainOf(top(1), top(0)));
    }

    public int either() {
        return replace(2, eitherOf(top(1), top(0)));
    }

    public int repeat(int least, int most) {
        argument(in(least, 0, 3) && in(most, 1, 3) && most >= least);
        Node made = repeatOf(top(0), least, most);
        state(pileTests() - top(0).tests() + made.tests() <= 8);
        replace(1, made);
        return pileTests();
    }

    public int keep() {
        state(pile.size() == 1 && patterns.size() < 12);
        patterns.add(pile.remove(0));
        return patterns.size() - 1;
    }

    public int wipe() {
        int had = pile.size();
        pile.clear();
        return had;
    }

    private boolean isBound(List<Token> row, int from, int to, int bound) {
        Token first = row.get(from);
        Token last = row.get(to);
        return bound == 0 || (bound == 1 ? first.sentence == last.sentence : first.text == last.text);
    }

    private TreeSet<Integer> rows(int pattern, int side, int bound, boolean isLongest) {
        TreeSet<Integer> matches = new TreeSet<>();
        List<Token> row = sides.get(side);
        for (int place = 0; place < row.size(); place++) {
            TreeSet<Integer> lengths = new TreeSet<>();
            Way start = new Way(place, Arrays.asList(-1, -1, -1));
            for (Way way : patterns.get(pattern).ways(row, row.size(), start)) {
                if (way.place > place && isBound(row, place, way.place - 1, bound)) {
                    lengths.add(way.place - place);
                }
            }
            if (!lengths.isEmpty()) {
                matches.add(place * 100 + (isLongest ? lengths.last() : lengths.first()));
            }
        }
        return matches;
    }

    public int run(int result, int pattern, int side, int bound, boolean isLongest) {
        index(in(pattern, 0, patterns.size() - 1) && in(side, 0, 1));
        argument(in(result, 0, 7) && in(bound, 0, 2));
        results.set(result, rows(pattern, side, bound, isLongest));
        resultSides[result] = side;
        return results.get(result).size();
    }

    public int walk(int pattern, int side, int bound, boolean isLongest) {
        index(in(pattern, 0, patterns.size() - 1) && in(side, 0, 1));
        argument(in(bound, 0, 2));
        TreeSet<Integer> matches = rows(pattern, side, bound, isLongest);
        int tokens = matches.stream().mapToInt(match -> match % 100).sum();
        return 100 * matches.size() + tokens % 100;
    }

    private boolean isResult(int result) {
        return in(result, 0, 7) && results.get(result) != null;
    }

    public int join(int result, int other, int how) {
        index(isResult(result) && isResult(other));
        argument(in(how, 0, 2));
        state(resultSides[result] == resultSides[other]);
        TreeSet<Integer> with = new TreeSet<>(results.get(other));
        if (how == 0) {
            results.get(result).addAll(with);
        } else if (how == 1) {
            results.get(result).retainAll(with);
        } else {
            results.get(result).removeAll(with);
        }
        return results.get(result).size();
    }

    public int thin(int result) {
        index(isResult(result));
        List<Integer> order = new ArrayList<>(results.get(result));
        order.sort((a, b) -> a / 100 != b / 100 ? a / 100 - b / 100 : b - a);
        Set<Integer> taken = new HashSet<>();
        TreeSet<Integer> stay = new TreeSet<>();
        for (int match : order) {
            Set<Integer> own = new HashSet<>();
            for (int i = 0; i < match % 100; i++) {
                own.add(match / 100 + i);
            }
            if (own.stream().noneMatch(taken::contains)) {
                taken.addAll(own);
                stay.add(match);
            }
        }
        results.set(result, stay);
        return stay.size();
    }

    public int aligned(int result, int pattern, boolean isNone) {
        index(isResult(result) && in(pattern, 0, patterns.size() - 1));
        int side = resultSides[result];
        Set<Integer> having = new HashSet<>();
        for (int match : rows(pattern, 1 - side, 1, false)) {
            having.add(sides.get(1 - side).get(match / 100).sentence);
        }
        results.get(result).removeIf(match -> {
            int own = sides.get(side).get(match / 100).sentence;
            boolean isSome = pairs.stream().anyMatch(pair -> pair.get(side) == own
                    && having.contains(pair.get(1 - side)));
            return isSome == isNone;
        });
        return results.get(result).size();
    }

    public int drop(int result) {
        index(isResult(result));
        int had = results.get(result).size();
        results.set(result, null);
        return had;
    }

    public int size(int result) {
        return isResult(result) ? results.get(result).size() : -1;
    }

    public int match(int result, int match) {
        index(isResult(result) && in(match, 0, results.get(result).size() - 1));
        return new ArrayList<>(results.get(result)).get(match);
    }

    private List<Integer> groupList(int result, int attribute, boolean isLast) {
        index(isResult(result));
        argument(in(attribute, 0, 2));
        TreeMap<Integer, Integer> counts = new TreeMap<>();
        for (int match : results.get(result)) {
            int place = match / 100 + (isLast ? match % 100 - 1 : 0);
            int value = sides.get(resultSides[result]).get(place).values[attribute];
            counts.merge(value, 1, Integer::sum);
        }
        List<Integer> groups = new ArrayList<>();
        counts.forEach((value, count) -> groups.add(count * 1000 + value));
        groups.sort((a, b) -> a / 1000 != b / 1000 ? b / 1000 - a / 1000 : a - b);
        return groups;
    }

    public int groups(int result, int attribute, boolean isLast) {
        return groupList(result, attribute, isLast).size();
    }

    public int groupAt(int result, int attribute, boolean isLast, int group) {
        List<Integer> groups = groupList(result, attribute, isLast);
        index(in(group, 0, groups.size() - 1));
        return groups.get(group);
    }
}
