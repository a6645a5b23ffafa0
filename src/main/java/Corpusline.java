/**
 * A corpus engine: tokens with several attributes on two sides, sentences and texts, aligned
 * sentences, patterns that are built on a pile of parts, and results of running them.
 */
public final class Corpusline {
    public static final int NONE = -1;
    public static final int WORD = 0, KIND = 1, ROOT = 2;
    public static final int NOWHERE = 0, SENTENCE = 1, TEXT = 2;
    public static final int EITHER = 0, BOTH = 1, WITHOUT = 2;

    private static final int SIDES = 2, MOST_TOKENS = 40;
    private static final int ATTRIBUTES = 3, BOUNDS = 3, HOWS = 3;
    private static final int WORDS = 100, KINDS = 10, ROOTS = 50, VALUES = 100;
    private static final int LABELS = 3, MOST_TESTS = 8, MOST_REPEATS = 3, MOST_PATTERNS = 12;
    private static final int RESULTS = 8;

    private final Side[] sides = new Side[SIDES];
    private int pairCount = 0;
    private final Part[] pile = new Part[MOST_TESTS];
    private int pileCount = 0;
    private final Part[] patterns = new Part[MOST_PATTERNS];
    private int patternCount = 0;
    private final Result[] results = new Result[RESULTS];
    private final Walker walker = new Walker();
    private final int[] groupCounts = new int[VALUES];

    public Corpusline() {
        for (int i = 0; i < SIDES; i++) {
            sides[i] = new Side();
        }
        for (int i = 0; i < RESULTS; i++) {
            results[i] = new Result();
        }
    }

    // ---- tokens

    public int token(int side, int word, int kind, int root)
            throws IndexOutOfBoundsException, IllegalArgumentException, IllegalStateException {
        Side row = knownSide(side);
        demandRange(word, 0, WORDS - 1);
        demandRange(kind, 0, KINDS - 1);
        demandRange(root, 0, ROOTS - 1);
        if (row.count >= MOST_TOKENS) {
            throw new IllegalStateException("the side is full");
        }
        return row.append(word, kind, root);
    }

    public int end(int side, boolean isText)
            throws IndexOutOfBoundsException, IllegalStateException {
        Side row = knownSide(side);
        if (row.count == 0) {
            throw new IllegalStateException("the side has no tokens");
        }
        row.isSentenceEnded = true;
        row.isTextEnded = row.isTextEnded || isText;
        return row.count;
    }

    public int align(int first, int second) throws IndexOutOfBoundsException {
        Side left = sides[0];
        Side right = sides[1];
        if (!left.isSentence(first) || !right.isSentence(second)) {
            throw new IndexOutOfBoundsException("no such sentence");
        }
        if ((left.partners[first] >>> second & 1L) == 0L) {
            left.partners[first] |= 1L << second;
            right.partners[second] |= 1L << first;
            pairCount++;
        }
        return pairCount;
    }

    public int tokens(int side) throws IndexOutOfBoundsException {
        return knownSide(side).count;
    }

    public int sentenceOf(int side, int place) throws IndexOutOfBoundsException {
        Side row = knownSide(side);
        if (place < 0 || place >= row.count) {
            throw new IndexOutOfBoundsException("no such token");
        }
        return row.sentences[place];
    }

    public int occurs(int side, int attribute, int value)
            throws IndexOutOfBoundsException, IllegalArgumentException {
        Side row = knownSide(side);
        demandRange(attribute, 0, ATTRIBUTES - 1);
        int found = 0;
        for (int place = 0; place < row.count; place++) {
            if (row.valueAt(place, attribute) == value) {
                found++;
            }
        }
        return found;
    }

    // ---- patterns

    public int test(int attribute, int value, boolean isOther)
            throws IllegalArgumentException, IllegalStateException {
        demandRange(attribute, 0, ATTRIBUTES - 1);
        demandRange(value, 0, VALUES - 1);
        demandRoomForTest();
        return push(Part.ofTest(TokenTest.ofValue(attribute, value, isOther)));
    }

    public int any() throws IllegalStateException {
        demandRoomForTest();
        return push(Part.ofTest(TokenTest.ofSames(0)));
    }

    public int same(int attribute, int label)
            throws IllegalArgumentException, IllegalStateException {
        demandRange(attribute, 0, ATTRIBUTES - 1);
        demandRange(label, 0, LABELS - 1);
        demandRoomForTest();
        return push(Part.ofTest(TokenTest.ofSames(1 << attribute * LABELS + label)));
    }

    public void label(int label) throws IllegalArgumentException, IllegalStateException {
        demandRange(label, 0, LABELS - 1);
        TokenTest last = testFromTop(0);
        pop(1);
        push(Part.ofTest(last.withLabel(label)));
    }

    public int both() throws IllegalStateException {
        TokenTest second = testFromTop(0);
        TokenTest first = testFromTop(1);
        pop(2);
        return push(Part.ofTest(TokenTest.ofBoth(first, second)));
    }

    public int chain() throws IllegalStateException {
        Part second = partFromTop(0);
        Part first = partFromTop(1);
        pop(2);
        return push(Part.ofChain(first, second));
    }

    public int either() throws IllegalStateException {
        Part second = partFromTop(0);
        Part first = partFromTop(1);
        pop(2);
        return push(Part.ofEither(first, second));
    }

    public int repeat(int least, int most)
            throws IllegalArgumentException, IllegalStateException {
        demandRange(most, 1, MOST_REPEATS);
        demandRange(least, 0, most);
        Part part = partFromTop(0);
        int count = testsOnPile() + part.tests.length * (most - 1);
        if (count > MOST_TESTS) {
            throw new IllegalStateException("too many tests");
        }
        pop(1);
        push(Part.ofRepeat(part, least, most));
        return count;
    }

    public int keep() throws IllegalStateException {
        if (pileCount != 1 || patternCount >= MOST_PATTERNS) {
            throw new IllegalStateException("not just one part, or too many patterns");
        }
        int number = patternCount;
        patterns[number] = pile[0];
        patternCount++;
        pop(1);
        return number;
    }

    public int wipe() {
        int had = pileCount;
        pop(had);
        return had;
    }

    // ---- runs and results

    public int run(int result, int pattern, int side, int bound, boolean isLongest)
            throws IndexOutOfBoundsException, IllegalArgumentException {
        Part wanted = knownPattern(pattern);
        Side row = knownSide(side);
        demandRange(result, 0, RESULTS - 1);
        demandRange(bound, 0, BOUNDS - 1);
        Result made = results[result];
        made.begin(side);
        for (int place = 0; place < row.count; place++) {
            int length = walker.lengthFrom(wanted, row, place, bound, isLongest);
            if (length > 0) {
                made.lengths[place] = 1 << length;
            }
        }
        return made.matchCount();
    }

    public int walk(int pattern, int side, int bound, boolean isLongest)
            throws IndexOutOfBoundsException, IllegalArgumentException {
        Part wanted = knownPattern(pattern);
        Side row = knownSide(side);
        demandRange(bound, 0, BOUNDS - 1);
        int found = 0;
        int tokens = 0;
        for (int place = 0; place < row.count; place++) {
            int length = walker.lengthFrom(wanted, row, place, bound, isLongest);
            if (length > 0) {
                found++;
                tokens += length;
            }
        }
        return found * 100 + tokens % 100;
    }

    public int join(int result, int other, int how)
            throws IndexOutOfBoundsException, IllegalArgumentException, IllegalStateException {
        Result changed = knownResult(result);
        Result with = knownResult(other);
        demandRange(how, 0, HOWS - 1);
        if (changed.side != with.side) {
            throw new IllegalStateException("results of unlike sides");
        }
        for (int place = 0; place < MOST_TOKENS; place++) {
            changed.lengths[place] = joined(changed.lengths[place], with.lengths[place], how);
        }
        return changed.matchCount();
    }

    public int thin(int result) throws IndexOutOfBoundsException {
        Result thinned = knownResult(result);
        int free = 0;
        for (int place = 0; place < MOST_TOKENS; place++) {
            int longest = Integer.highestOneBit(thinned.lengths[place]);
            if (place < free) {
                thinned.lengths[place] = 0;
            } else if (longest != 0) {
                thinned.lengths[place] = longest;
                free = place + Integer.numberOfTrailingZeros(longest);
            }
        }
        return thinned.matchCount();
    }

    public int aligned(int result, int pattern, boolean isNone) throws IndexOutOfBoundsException {
        Result changed = knownResult(result);
        Part wanted = knownPattern(pattern);
        Side row = sides[changed.side];
        long having = sentencesWith(wanted, sides[1 - changed.side]);
        for (int place = 0; place < row.count; place++) {
            boolean isSome = (row.partners[row.sentences[place]] & having) != 0L;
            if (isSome == isNone) {
                changed.lengths[place] = 0;
            }
        }
        return changed.matchCount();
    }

    public int drop(int result) throws IndexOutOfBoundsException {
        Result dropped = knownResult(result);
        dropped.isThere = false;
        return dropped.matchCount();
    }

    public int size(int result) {
        return isResult(result) ? results[result].matchCount() : NONE;
    }

    public int match(int result, int match) throws IndexOutOfBoundsException {
        Result asked = knownResult(result);
        int left = match;
        for (int place = 0; place < MOST_TOKENS && left >= 0; place++) {
            for (int length = 1; length <= MOST_TESTS; length++) {
                if ((asked.lengths[place] >> length & 1) == 0) {
                    continue;
                }
                if (left == 0) {
                    return place * 100 + length;
                }
                left--;
            }
        }
        throw new IndexOutOfBoundsException("no such match");
    }

    public int groups(int result, int attribute, boolean isLast)
            throws IndexOutOfBoundsException, IllegalArgumentException {
        Result asked = knownResult(result);
        demandRange(attribute, 0, ATTRIBUTES - 1);
        countGroups(asked, attribute, isLast);
        int found = 0;
        for (int value = 0; value < VALUES; value++) {
            if (groupCounts[value] > 0) {
                found++;
            }
        }
        return found;
    }

    public int groupAt(int result, int attribute, boolean isLast, int group)
            throws IndexOutOfBoundsException, IllegalArgumentException {
        Result asked = knownResult(result);
        demandRange(attribute, 0, ATTRIBUTES - 1);
        countGroups(asked, attribute, isLast);
        for (int value = 0; value < VALUES; value++) {
            if (groupCounts[value] > 0 && groupsAheadOf(value) == group) {
                return groupCounts[value] * 1000 + value;
            }
        }
        throw new IndexOutOfBoundsException("no such group");
    }

    // ---- what the calls share

    private static void demandRange(int number, int least, int most)
            throws IllegalArgumentException {
        if (number < least || number > most) {
            throw new IllegalArgumentException("an argument is out of its range");
        }
    }

    private Side knownSide(int side) throws IndexOutOfBoundsException {
        if (side < 0 || side >= SIDES) {
            throw new IndexOutOfBoundsException("no such side");
        }
        return sides[side];
    }

    private Part knownPattern(int pattern) throws IndexOutOfBoundsException {
        if (pattern < 0 || pattern >= patternCount) {
            throw new IndexOutOfBoundsException("no such pattern");
        }
        return patterns[pattern];
    }

    private boolean isResult(int result) {
        return result >= 0 && result < RESULTS && results[result].isThere;
    }

    private Result knownResult(int result) throws IndexOutOfBoundsException {
        if (!isResult(result)) {
            throw new IndexOutOfBoundsException("no such result");
        }
        return results[result];
    }

    private int testsOnPile() {
        int count = 0;
        for (int i = 0; i < pileCount; i++) {
            count += pile[i].tests.length;
        }
        return count;
    }

    private void demandRoomForTest() throws IllegalStateException {
        if (testsOnPile() >= MOST_TESTS) {
            throw new IllegalStateException("the pile has no room for a test");
        }
    }

    /** Returns the part that lies under so many others. */
    private Part partFromTop(int over) throws IllegalStateException {
        if (over < 0 || over >= pileCount) {
            throw new IllegalStateException("too few parts");
        }
        return pile[pileCount - 1 - over];
    }

    private TokenTest testFromTop(int over) throws IllegalStateException {
        Part part = partFromTop(over);
        if (!part.isTest) {
            throw new IllegalStateException("the part is no test");
        }
        return part.tests[0];
    }

    /** Each part has a test at least, so there are never more parts than tests allowed. */
    private int push(Part part) {
        if (pileCount < MOST_TESTS) {
            pile[pileCount] = part;
            pileCount++;
        }
        return pileCount;
    }

    private void pop(int count) {
        for (int i = 0; i < count && pileCount > 0; i++) {
            pileCount--;
            pile[pileCount] = null;
        }
    }

    private static int joined(int own, int others, int how) {
        if (how == EITHER) {
            return own | others;
        }
        return how == BOTH ? own & others : own & ~others;
    }

    /** Returns a bit for each sentence that has a row which the pattern matches. */
    private long sentencesWith(Part pattern, Side side) {
        long found = 0L;
        for (int place = 0; place < side.count; place++) {
            long bit = 1L << side.sentences[place];
            if ((found & bit) == 0L
                    && walker.lengthFrom(pattern, side, place, SENTENCE, false) > 0) {
                found |= bit;
            }
        }
        return found;
    }

    private void countGroups(Result result, int attribute, boolean isLast) {
        for (int value = 0; value < VALUES; value++) {
            groupCounts[value] = 0;
        }
        Side row = sides[result.side];
        for (int place = 0; place < row.count; place++) {
            for (int length = 1; length <= MOST_TESTS && place + length <= row.count; length++) {
                if ((result.lengths[place] >> length & 1) != 0) {
                    int token = isLast ? place + length - 1 : place;
                    groupCounts[row.valueAt(token, attribute)]++;
                }
            }
        }
    }

    private int groupsAheadOf(int value) {
        int ahead = 0;
        for (int other = 0; other < VALUES; other++) {
            if (groupCounts[other] > groupCounts[value]
                    || groupCounts[other] == groupCounts[value] && other < value) {
                ahead++;
            }
        }
        return ahead;
    }

    /** A row of tokens, with the sentences and texts that it is cut into. */
    private static final class Side {
        int count = 0;
        boolean isSentenceEnded = false;
        boolean isTextEnded = false;
        final int[] values = new int[MOST_TOKENS * ATTRIBUTES];
        final int[] sentences = new int[MOST_TOKENS];
        final int[] texts = new int[MOST_TOKENS];
        /** For each sentence, a bit for each sentence of the other side that is aligned with it. */
        final long[] partners = new long[MOST_TOKENS];

        int append(int word, int kind, int root) {
            int place = count;
            values[place * ATTRIBUTES + WORD] = word;
            values[place * ATTRIBUTES + KIND] = kind;
            values[place * ATTRIBUTES + ROOT] = root;
            if (place > 0) {
                sentences[place] = sentences[place - 1] + (isSentenceEnded ? 1 : 0);
                texts[place] = texts[place - 1] + (isTextEnded ? 1 : 0);
            }
            isSentenceEnded = false;
            isTextEnded = false;
            count++;
            return place;
        }

        int valueAt(int place, int attribute) {
            return values[place * ATTRIBUTES + attribute];
        }

        boolean isSentence(int number) {
            return number >= 0 && count > 0 && number <= sentences[count - 1];
        }

        /** Tells whether a row from one place to another one, which may be none, keeps a bound. */
        boolean isWithin(int from, int to, int bound) {
            if (to >= count) {
                return false;
            }
            if (bound == SENTENCE) {
                return sentences[from] == sentences[to];
            }
            return bound != TEXT || texts[from] == texts[to];
        }
    }

    /** What one token has to be like, and the labels that are set to it then; never changed. */
    private static final class TokenTest {
        private static final int WORD_BITS = 64;
        private static final int ROWS = 2;

        /** A bit for each value that passes: two numbers for each attribute. */
        private final long[] passing = new long[ATTRIBUTES * ROWS];
        /** A bit for each pair of an attribute and a label which are compared. */
        private int sames = 0;
        private int labels = 0;

        static TokenTest ofSames(int sames) {
            TokenTest test = new TokenTest();
            for (int i = 0; i < ATTRIBUTES * ROWS; i++) {
                test.passing[i] = -1L;
            }
            test.sames = sames;
            return test;
        }

        static TokenTest ofValue(int attribute, int value, boolean isOther) {
            TokenTest test = ofSames(0);
            int row = attribute * ROWS + value / WORD_BITS;
            long bit = 1L << value % WORD_BITS;
            if (isOther) {
                test.passing[row] = ~bit;
                return test;
            }
            for (int i = 0; i < ROWS; i++) {
                test.passing[attribute * ROWS + i] = 0L;
            }
            test.passing[row] = bit;
            return test;
        }

        static TokenTest ofBoth(TokenTest first, TokenTest second) {
            TokenTest test = new TokenTest();
            for (int i = 0; i < ATTRIBUTES * ROWS; i++) {
                test.passing[i] = first.passing[i] & second.passing[i];
            }
            test.sames = first.sames | second.sames;
            test.labels = first.labels | second.labels;
            return test;
        }

        TokenTest withLabel(int label) {
            TokenTest test = ofBoth(this, this);
            test.labels |= 1 << label;
            return test;
        }

        /** Returns the settings of those labels that the test reads. */
        int readSettings() {
            int read = 0;
            for (int pair = 0; pair < ATTRIBUTES * LABELS; pair++) {
                if ((sames >> pair & 1) != 0) {
                    read |= Settings.fieldOf(pair % LABELS);
                }
            }
            return read;
        }

        boolean hasPassingValues(Side side, int place) {
            for (int attribute = 0; attribute < ATTRIBUTES; attribute++) {
                int value = side.valueAt(place, attribute);
                long row = passing[attribute * ROWS + value / WORD_BITS];
                if ((row >>> value % WORD_BITS & 1L) == 0L) {
                    return false;
                }
            }
            return true;
        }

        boolean hasSameValues(Side side, int place, int settings) {
            for (int pair = 0; pair < ATTRIBUTES * LABELS; pair++) {
                if ((sames >> pair & 1) == 0) {
                    continue;
                }
                int token = Settings.tokenOf(settings, pair % LABELS);
                int attribute = pair / LABELS;
                if (token == NONE
                        || side.valueAt(token, attribute) != side.valueAt(place, attribute)) {
                    return false;
                }
            }
            return true;
        }

        int settingsBehind(int settings, int place) {
            int set = settings;
            for (int label = 0; label < LABELS; label++) {
                if ((labels >> label & 1) != 0) {
                    set = Settings.withToken(set, label, place);
                }
            }
            return set;
        }
    }

    /** To which tokens the labels are set, in one number: 0 if none is. */
    private static final class Settings {
        private static final int BITS = 6;
        private static final int FIELD = (1 << BITS) - 1;

        static int fieldOf(int label) {
            return FIELD << label * BITS;
        }

        static int tokenOf(int settings, int label) {
            // A field holds the place and one more, so that 0 is no token: NONE.
            return (settings >>> label * BITS & FIELD) - 1;
        }

        static int withToken(int settings, int label, int place) {
            return settings & ~fieldOf(label) | place + 1 << label * BITS;
        }
    }

    /**
     * A part, as the rows of tests that it stands for: each repeat is written out, so that no
     * test comes twice in a row of tests, and each comes ahead of those of a higher number.
     */
    private static final class Part {
        final TokenTest[] tests;
        /** For each test a bit for each test that can come next. */
        final int[] nexts;
        int firsts = 0;
        int lasts = 0;
        boolean isNoneToo = false;
        boolean isTest = false;
        /** The settings that some test reads; other ones make no difference. */
        int readSettings = 0;

        private Part(int count) {
            tests = new TokenTest[count];
            nexts = new int[count];
        }

        static Part ofTest(TokenTest test) {
            Part part = new Part(1);
            part.tests[0] = test;
            part.firsts = 1;
            part.lasts = 1;
            part.isTest = true;
            part.readSettings = test.readSettings();
            return part;
        }

        static Part ofChain(Part first, Part second) {
            int shift = first.tests.length;
            Part part = ofTestsOf(first, second);
            for (int i = 0; i < shift; i++) {
                if ((first.lasts >> i & 1) != 0) {
                    part.nexts[i] |= second.firsts << shift;
                }
            }
            part.firsts = first.firsts | (first.isNoneToo ? second.firsts << shift : 0);
            part.lasts = second.lasts << shift | (second.isNoneToo ? first.lasts : 0);
            part.isNoneToo = first.isNoneToo && second.isNoneToo;
            return part;
        }

        static Part ofEither(Part first, Part second) {
            int shift = first.tests.length;
            Part part = ofTestsOf(first, second);
            part.firsts = first.firsts | second.firsts << shift;
            part.lasts = first.lasts | second.lasts << shift;
            part.isNoneToo = first.isNoneToo || second.isNoneToo;
            return part;
        }

        static Part ofRepeat(Part once, int least, int most) {
            Part part = ofTimes(once, least == 0);
            for (int i = 1; i < most; i++) {
                part = ofChain(part, ofTimes(once, i >= least));
            }
            return part;
        }

        /** Returns a part that comes once, or not at all if it can be left out. */
        private static Part ofTimes(Part once, boolean canBeLeftOut) {
            Part part = new Part(once.tests.length);
            part.takeTests(once, 0);
            part.firsts = once.firsts;
            part.lasts = once.lasts;
            part.isNoneToo = once.isNoneToo || canBeLeftOut;
            return part;
        }

        /** Returns the tests of both, those of the second one behind the others, not linked. */
        private static Part ofTestsOf(Part first, Part second) {
            Part part = new Part(first.tests.length + second.tests.length);
            part.takeTests(first, 0);
            part.takeTests(second, first.tests.length);
            return part;
        }

        private void takeTests(Part other, int shift) {
            for (int i = 0; i < other.tests.length && shift + i < tests.length; i++) {
                tests[shift + i] = other.tests[i];
                nexts[shift + i] = other.nexts[i] << shift;
            }
            readSettings |= other.readSettings;
        }
    }

    /**
     * Follows all the ways through a pattern at once, token by token. A way is a number: the
     * settings of the labels, and the test that was passed last, from 1 on, or 0 at the start.
     */
    private static final class Walker {
        private static final int TEST_BITS = 4;
        private static final int TEST_FIELD = (1 << TEST_BITS) - 1;
        /** Ways go up through 8 tests, so that behind 4 tokens there are most: 8 over 4. */
        private static final int MOST_WAYS = 70;

        private int[] ways = new int[MOST_WAYS];
        private int[] spareWays = new int[MOST_WAYS];
        private int wayCount = 0;

        /** Returns how long the match is that begins at a place; 0 if there is none. */
        int lengthFrom(Part pattern, Side side, int place, int bound, boolean isLongest) {
            int best = 0;
            ways[0] = 0;
            wayCount = 1;
            for (int length = 1; length <= MOST_TESTS && wayCount > 0; length++) {
                int token = place + length - 1;
                if (!side.isWithin(place, token, bound)) {
                    break;
                }
                if (isWholeBehind(pattern, side, token)) {
                    best = length;
                    if (!isLongest) {
                        break;
                    }
                }
            }
            return best;
        }

        /** Takes the ways over one token; tells whether one of them can end the pattern there. */
        private boolean isWholeBehind(Part pattern, Side side, int place) {
            boolean isWhole = false;
            int count = 0;
            for (int i = 0; i < pattern.tests.length; i++) {
                if (pattern.tests[i].hasPassingValues(side, place)) {
                    int before = count;
                    count = addWaysThrough(pattern, i, side, place, count);
                    isWhole = isWhole || count > before && (pattern.lasts >> i & 1) != 0;
                }
            }
            int[] passed = ways;
            ways = spareWays;
            spareWays = passed;
            wayCount = count;
            return isWhole;
        }

        /** Adds each way through one test to the spare ones, none twice; returns their count. */
        private int addWaysThrough(Part pattern, int number, Side side, int place, int from) {
            TokenTest test = pattern.tests[number];
            int count = from;
            for (int i = 0; i < wayCount; i++) {
                int settings = ways[i] >>> TEST_BITS;
                if ((nextsOf(pattern, ways[i]) >> number & 1) == 0
                        || !test.hasSameValues(side, place, settings)) {
                    continue;
                }
                int set = test.settingsBehind(settings, place) & pattern.readSettings;
                int way = set << TEST_BITS | number + 1;
                if (count < MOST_WAYS && !isSpareWay(way, from, count)) {
                    spareWays[count] = way;
                    count++;
                }
            }
            return count;
        }

        private static int nextsOf(Part pattern, int way) {
            int passed = way & TEST_FIELD;
            return passed == 0 ? pattern.firsts : pattern.nexts[passed - 1];
        }

        private boolean isSpareWay(int way, int from, int to) {
            for (int i = from; i < to; i++) {
                if (spareWays[i] == way) {
                    return true;
                }
            }
            return false;
        }
    }

    /** A side's matches: for each first place a bit, of the number of its length, for each. */
    private static final class Result {
        boolean isThere = false;
        int side = 0;
        final int[] lengths = new int[MOST_TOKENS];

        void begin(int newSide) {
            isThere = true;
            side = newSide;
            for (int place = 0; place < MOST_TOKENS; place++) {
                lengths[place] = 0;
            }
        }

        int matchCount() {
            int count = 0;
            for (int place = 0; place < MOST_TOKENS; place++) {
                count += Integer.bitCount(lengths[place]);
            }
            return count;
        }
    }
}
