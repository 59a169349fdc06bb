import java.util.Arrays;

/**
 * A tongue of two levels: deep words, said words, and rules over rows of pairs
 * that hold all at once. ../shared/DOC.md says what each call answers.
 */
public final class SaidShallow {
    public static final int NONE = -1;

    private static final int CANNOT = NONE - 1;
    private static final int TAPE_ROOM = 600;
    private static final int FED = 20;
    private static final int MOST_LETTERS = 8;
    private static final int MOST_PAIRS = 20;
    private static final int MOST_EXTRAS = 12;
    private static final int MOST_OF_ONE = 3;
    private static final int MOST_RULES = 8;
    private static final int MOST_CONTEXTS = 3;
    private static final int MOST_ITEMS = 5;
    private static final int MOST_STEMS = 12;
    private static final int MOST_ENDS = 8;
    private static final int MOST_EXAMPLES = 12;
    private static final int MOST_ORDERED = 6;
    private static final int LONGEST_PART = 6;
    private static final int LONGEST_WORD = 8;
    private static final int LONGEST_SEARCHED = 9;
    private static final int LONGEST_WALK = 16;
    private static final int CLASSES = 6;
    private static final int SIGNS = 9;
    private static final int SETS = 256;
    private static final int COUPLES = MOST_STEMS * MOST_ENDS;

    private final int[] tape = new int[TAPE_ROOM];
    private int tapeLength;
    private final Rows rows = new Rows();
    private final Tongue tongue = rows.tongue;
    private final Words words = rows.words;
    private final Standing standing = new Standing();
    private final Tongue imageTongue = new Tongue();
    private final Standing imageStanding = new Standing();
    private boolean imageTaken;
    private final Reader reader = new Reader();
    private final BestOrder bestOrder = new BestOrder();
    private final int[] couples = new int[COUPLES];
    private int coupleCount;
    private int brokenPlace = NONE;
    private final int[] agedWord = new int[LONGEST_WORD];
    private int agedLength;
    private final int[] told = new int[LONGEST_WALK];
    private final int[] joined = new int[LONGEST_PART + LONGEST_PART];
    /** Counts what the answers of orders() hang on, so that they are found once. */
    private int changes;

    public SaidShallow() {
    }

    public int feed(int a, int b, int c, int d, int e) {
        if (tapeLength + FED > TAPE_ROOM) {
            return NONE;
        }
        putNumber(a);
        putNumber(b);
        putNumber(c);
        putNumber(d);
        putNumber(e);
        return tapeLength;
    }

    public boolean end(int n) {
        if (n < 0 || n > tapeLength) {
            return false;
        }
        tapeLength = n;
        return true;
    }

    public int text() {
        if (!reader.read(tape, emptyTape())) {
            return NONE;
        }
        tongue.copyFrom(reader.draft);
        standing.restart(tongue.ruleCount);
        changes++;
        words.clear();
        coupleCount = 0;
        brokenPlace = NONE;
        agedLength = 0;
        return tongue.ruleCount;
    }

    public int fault(int what) {
        if (what == 0) {
            return reader.faultKind;
        }
        return what == 1 ? reader.faultPlace : NONE;
    }

    public boolean use(int set) {
        if (!isSet(set)) {
            return false;
        }
        standing.inUse = set;
        changes++;
        return true;
    }

    public boolean slack(int n) {
        if (n != 0 && n != 1) {
            return false;
        }
        standing.slack = n;
        changes++;
        return true;
    }

    public int say() {
        return findWords(true);
    }

    public int hear() {
        return findWords(false);
    }

    public int found(int i, int k) {
        if (i < 0 || i >= words.count) {
            return NONE;
        }
        return k == NONE ? words.lengthOf(i) : words.letterOf(i, k);
    }

    public int understand() {
        coupleCount = 0;
        int length = takeWord();
        if (length == NONE) {
            return NONE;
        }
        for (int stem = 0; stem < tongue.stems.count; stem++) {
            for (int ending = 0; ending < tongue.ends.count; ending++) {
                keepCouple(stem, ending, length);
            }
        }
        return coupleCount;
    }

    public int meant(int i, int what) {
        if (i < 0 || i >= coupleCount || (what != 0 && what != 1)) {
            return NONE;
        }
        return what == 0 ? couples[i] / MOST_ENDS : couples[i] % MOST_ENDS;
    }

    public int walk() {
        brokenPlace = NONE;
        int length = takeRow();
        if (length == NONE) {
            return CANNOT;
        }
        for (int k = 0; k < tongue.ruleCount; k++) {
            if ((standing.inUse >> k & 1) == 1) {
                brokenPlace = tongue.rules[k].firstBreak(told, length);
            }
            if (brokenPlace != NONE) {
                return k;
            }
        }
        return NONE;
    }

    public int where() {
        return brokenPlace;
    }

    public int ages() {
        agedLength = 0;
        int length = takeWord();
        if (length == NONE) {
            return NONE;
        }
        System.arraycopy(told, 0, agedWord, 0, length);
        for (int i = 0; i < tongue.ruleCount; i++) {
            int k = standing.order[i];
            if ((standing.inUse >> k & 1) == 1) {
                length = tongue.ageBy(k, agedWord, length);
            }
        }
        agedLength = length;
        return length;
    }

    public int aged(int k) {
        return k < 0 || k >= agedLength ? NONE : agedWord[k] - 1;
    }

    public boolean order(int i, int k) {
        if (!isRule(i) || !isRule(k)) {
            return false;
        }
        standing.moveRule(i, k, tongue.ruleCount);
        return true;
    }

    public int lives(int deep, int said, int n) {
        int pair = tongue.pairOf(deep, said);
        if (pair == NONE || n < 1 || n > 3) {
            return NONE;
        }
        int many = 1;
        for (int length = 1; length <= n; length++) {
            many *= tongue.letterCount;
            for (int index = 0; index < many; index++) {
                rows.takeNumbered(length, index);
                if (rows.hasAllowedRowWith(pair, standing.inUse, standing.slack)) {
                    return 1;
                }
            }
        }
        return 0;
    }

    public int orders(int n, int what) {
        int ordered = Integer.bitCount(standing.inUse);
        boolean asksRule = what >= 10 && what - 10 < ordered;
        if (n < 1 || n > 2 || ordered > MOST_ORDERED || (what != 0 && what != 1 && !asksRule)) {
            return NONE;
        }
        bestOrder.refresh(n, rows, standing, changes);
        if (asksRule) {
            return bestOrder.best[what - 10];
        }
        return what == 0 ? bestOrder.bestAgreed : bestOrder.wordCount(tongue.letterCount);
    }

    public int quarrel(int a, int b) {
        if (!isRule(a) || !isRule(b) || a == b) {
            return NONE;
        }
        Rule one = tongue.rules[a];
        Rule other = tongue.rules[b];
        return one.mayClash(other) ? one.shortestClash(other, tongue.pairCount) : NONE;
    }

    public int parts(int a, int b, int n) {
        if (!isSet(a) || !isSet(b) || n < 1 || n > 3) {
            return CANNOT;
        }
        return firstParted(a, b, n);
    }

    public int idle(int rule, int n) {
        if (!isRule(rule) || n < 1 || n > 3 || (standing.inUse >> rule & 1) == 0) {
            return NONE;
        }
        int without = standing.inUse & ~(1 << rule);
        return firstParted(standing.inUse, without, n) == NONE ? 1 : 0;
    }

    public int fewest(int n) {
        if (n < 1 || n > 2) {
            return NONE;
        }
        rows.clearNeeded();
        int many = 1;
        for (int length = 1; length <= n; length++) {
            many *= tongue.letterCount;
            for (int index = 0; index < many; index++) {
                rows.takeNumbered(length, index);
                rows.noteNeeded(standing.inUse, standing.slack);
            }
        }
        return rows.leastThatMeetsNeeds(standing.inUse);
    }

    public int example(boolean right) {
        int length = emptyTape();
        if (standing.deeps.count >= MOST_EXAMPLES) {
            return NONE;
        }
        int colon = placeOfColon(length);
        int behind = length - colon - 1;
        if (colon == NONE || colon > LONGEST_WORD || behind > LONGEST_WORD || length < 2) {
            return NONE;
        }
        if (!areLetters(0, colon) || !areLetters(colon + 1, length)) {
            return NONE;
        }
        standing.openExample(right);
        for (int i = 0; i < colon; i++) {
            standing.deeps.push(tongue.signOf(tape[i]));
        }
        for (int i = colon + 1; i < length; i++) {
            standing.saids.push(tongue.signOf(tape[i]));
        }
        return standing.deeps.count - 1;
    }

    public int fits(int set) {
        if (!isSet(set)) {
            return NONE;
        }
        standing.study(rows, tongue.ruleCount);
        return standing.firstUntrue(set) == NONE ? 1 : 0;
    }

    public int learn() {
        standing.study(rows, tongue.ruleCount);
        return standing.leastTrue(tongue.ruleCount);
    }

    public int forced(int rule) {
        if (!isRule(rule)) {
            return NONE;
        }
        int learnt = learn();
        if (learnt == NONE || (learnt >> rule & 1) == 0) {
            return NONE;
        }
        return standing.firstUntrue(learnt & ~(1 << rule));
    }

    public int rule(int k, int what) {
        if (!isRule(k)) {
            return NONE;
        }
        Rule one = tongue.rules[k];
        switch (what) {
            case 0:
                return one.deep;
            case 1:
                return one.said;
            case 2:
                return one.op;
            case 3:
                return one.contexts;
            case 4:
                return standing.inUse >> k & 1;
            default:
                return NONE;
        }
    }

    public boolean image(boolean taken) {
        if (taken) {
            imageTongue.copyFrom(tongue);
            imageStanding.copyFrom(standing);
            imageTaken = true;
            return true;
        }
        if (!imageTaken) {
            return false;
        }
        tongue.copyFrom(imageTongue);
        standing.copyFrom(imageStanding);
        changes++;
        return true;
    }

    public int look(int what) {
        switch (what) {
            case 0:
                return tongue.letterCount;
            case 1:
                return tongue.pairCount;
            case 2:
                return tongue.ruleCount;
            case 3:
                return tongue.stems.count;
            case 4:
                return tongue.ends.count;
            case 5:
                return standing.inUse;
            case 6:
                return standing.slack;
            case 7:
                return standing.deeps.count;
            default:
                return lookFurther(what);
        }
    }

    private int lookFurther(int what) {
        if (what >= 10 && what < 10 + CLASSES) {
            return Integer.bitCount(tongue.classes[what - 10]);
        }
        if (what >= 20 && what < 40) {
            return tongue.stems.lengthOf(what - 20);
        }
        if (what >= 40 && what < 50) {
            return tongue.ends.lengthOf(what - 40);
        }
        if (what >= 50 && what < 50 + tongue.ruleCount) {
            return standing.order[what - 50];
        }
        return NONE;
    }

    private void putNumber(int number) {
        for (int shift = 24; shift >= 0; shift -= 8) {
            tape[tapeLength] = number >>> shift & 255;
            tapeLength++;
        }
    }

    /** The bytes stay readable behind the call; the answer is how many there were. */
    private int emptyTape() {
        int length = tapeLength;
        tapeLength = 0;
        return length;
    }

    private boolean isSet(int set) {
        return set >= 0 && set < 1 << tongue.ruleCount;
    }

    private boolean isRule(int k) {
        return k >= 0 && k < tongue.ruleCount;
    }

    private boolean areLetters(int from, int to) {
        for (int i = from; i < to; i++) {
            if (tongue.signOf(tape[i]) == 0) {
                return false;
            }
        }
        return true;
    }

    private int placeOfColon(int length) {
        for (int i = 0; i < length; i++) {
            if (tape[i] == ':') {
                return i;
            }
        }
        return NONE;
    }

    /** The TAPE's word of 1 .. 8 LETTERS goes to told; NONE if it is none such. */
    private int takeWord() {
        int length = emptyTape();
        if (length < 1 || length > LONGEST_WORD || !areLetters(0, length)) {
            return NONE;
        }
        for (int i = 0; i < length; i++) {
            told[i] = tongue.signOf(tape[i]);
        }
        return length;
    }

    /** The TAPE's ROW goes to told as numbers of PAIRS; NONE if it is none such. */
    private int takeRow() {
        int length = emptyTape();
        if (length < 2 || length > 2 * LONGEST_WALK || length % 2 != 0) {
            return NONE;
        }
        for (int i = 0; i < length; i += 2) {
            int pair = pairOfSigns(tape[i], tape[i + 1]);
            if (pair == NONE) {
                return NONE;
            }
            told[i / 2] = pair;
        }
        return length / 2;
    }

    private int pairOfSigns(int deepSign, int saidSign) {
        int deep = tongue.signOf(deepSign);
        int said = tongue.signOf(saidSign);
        if ((deep == 0 && deepSign != '0') || (said == 0 && saidSign != '0')) {
            return NONE;
        }
        return tongue.pairOf(deep, said);
    }

    private int findWords(boolean deepGiven) {
        words.clear();
        int length = takeWord();
        if (length == NONE) {
            return NONE;
        }
        rows.takeSigns(told, length);
        rows.collect(deepGiven, standing.inUse, standing.slack);
        if (words.tooMany) {
            words.clear();
            return CANNOT;
        }
        return words.count;
    }

    private void keepCouple(int stem, int ending, int length) {
        int front = tongue.stems.copyTo(stem, joined, 0);
        int whole = tongue.ends.copyTo(ending, joined, front);
        rows.takeSigns(told, length);
        if (rows.isSaidAs(joined, whole, standing.inUse, standing.slack)) {
            couples[coupleCount] = stem * MOST_ENDS + ending;
            coupleCount++;
        }
    }

    private int firstParted(int a, int b, int n) {
        int number = 0;
        int many = 1;
        for (int length = 1; length <= n && a != b; length++) {
            many *= tongue.letterCount;
            for (int index = 0; index < many; index++) {
                rows.takeNumbered(length, index);
                if (rows.tellsApart(a, b, standing.slack)) {
                    return number;
                }
                number++;
            }
        }
        return NONE;
    }

    /**
     * The left or the right ITEMS of a RULE's CONTEXTS, as one mask of places
     * reached: six bits a CONTEXT, the bit behind its last ITEM always the sixth,
     * so that all CONTEXTS move in one step.
     */
    private static final class Side {
        static final int LANE = 6;
        static final int LAST = LANE - 1;
        static final int FINALS = 1 << LAST | 1 << LANE + LAST | 1 << 2 * LANE + LAST;
        static final int WHOLE_LANE = 63;
        static final int ALL_SIGNS = 511;
        /** In a said set: the said S must be the deep one. */
        static final int ITSELF = 512;
        static final int FARTHEST = 4;

        final int[] deepSets = new int[MOST_CONTEXTS * LANE];
        final int[] saidSets = new int[MOST_CONTEXTS * LANE];
        final int[] fitting = new int[MOST_PAIRS];
        int starred;
        int starts;
        int edges;

        void clear() {
            Arrays.fill(deepSets, 0);
            Arrays.fill(saidSets, 0);
            Arrays.fill(fitting, 0);
            starred = 0;
            starts = 0;
            edges = 0;
        }

        void copyFrom(Side other) {
            System.arraycopy(other.deepSets, 0, deepSets, 0, deepSets.length);
            System.arraycopy(other.saidSets, 0, saidSets, 0, saidSets.length);
            System.arraycopy(other.fitting, 0, fitting, 0, fitting.length);
            starred = other.starred;
            starts = other.starts;
            edges = other.edges;
        }

        void openContext(int context) {
            starts |= 1 << context * LANE + LAST;
        }

        void putEdge(int context) {
            edges |= 1 << context;
        }

        /** All ITEMS of the CONTEXT move one place away from the end, for the new one. */
        void addItem(int context, int deepSet, int saidSet, boolean star) {
            int base = context * LANE;
            int lane = WHOLE_LANE << base;
            System.arraycopy(deepSets, base + 1, deepSets, base, MOST_ITEMS - 1);
            System.arraycopy(saidSets, base + 1, saidSets, base, MOST_ITEMS - 1);
            deepSets[base + MOST_ITEMS - 1] = deepSet;
            saidSets[base + MOST_ITEMS - 1] = saidSet;
            starts = (starts & ~lane) | ((starts & lane) >> 1 & lane);
            starred = (starred & ~lane) | ((starred & lane) >> 1 & lane);
            if (star) {
                starred |= 1 << base + MOST_ITEMS - 1;
            }
        }

        void compile(Tongue tongue) {
            for (int pair = 0; pair < tongue.pairCount; pair++) {
                int mask = 0;
                for (int i = 0; i < deepSets.length; i++) {
                    if (takes(i, tongue.deepOf[pair], tongue.saidOf[pair])) {
                        mask |= 1 << i;
                    }
                }
                fitting[pair] = mask;
            }
        }

        private boolean takes(int item, int deep, int said) {
            boolean inSets = (deepSets[item] >> deep & saidSets[item] >> said & 1) == 1;
            return inSets && (deep == said || (saidSets[item] & ITSELF) == 0);
        }

        /**
         * With the places behind starred ITEMS, which may stand for none: the sum's
         * carry runs from a place through the starred ITEMS that follow one another,
         * and stops behind them, at the sixth bit at the latest.
         */
        int closure(int mask) {
            return mask | ((mask & starred) + starred ^ starred);
        }

        int step(int mask, int pair) {
            int taken = mask & fitting[pair];
            if (taken == 0) {
                return 0;
            }
            int all = (taken & ~starred) << 1 | (taken & starred);
            return all | ((all & starred) + starred ^ starred);
        }

        /** Which CONTEXTS have come to their end, as a set of three. */
        static int holding(int mask) {
            return (mask >> LAST & 1) | (mask >> 2 * LAST & 2) | (mask >> 3 * LAST & 4);
        }

        int startsOf(int context) {
            return closure(starts & WHOLE_LANE << context * LANE);
        }

        /** The starts of the CONTEXTS without # here. */
        int freeStarts() {
            int all = 0;
            for (int context = 0; context < MOST_CONTEXTS; context++) {
                if ((edges >> context & 1) == 0) {
                    all |= startsOf(context);
                }
            }
            return all;
        }

        int freeFinals() {
            int all = 0;
            for (int context = 0; context < MOST_CONTEXTS; context++) {
                if ((edges >> context & 1) == 0) {
                    all |= 1 << context * LANE + LAST;
                }
            }
            return all;
        }

        /**
         * The fewest PAIRS (0 .. 4) that both CONTEXTS take on this side; NONE if
         * there are none such. A couple of places is bit 6 * mine + theirs.
         */
        int shortestCommon(int mine, Side other, int theirs, int pairs, boolean isLeft) {
            int startMine = startsOf(mine) >> mine * LANE & WHOLE_LANE;
            int startTheirs = other.startsOf(theirs) >> theirs * LANE & WHOLE_LANE;
            long reached = couplesOf(startMine, startTheirs);
            for (int count = 0; count <= FARTHEST; count++) {
                if ((reached >> LAST * LANE + LAST & 1) == 1) {
                    return count;
                }
                long next = 0;
                for (int pair = 0; pair < pairs; pair++) {
                    next |= moveCouples(reached, mine, other, theirs, pair, isLeft);
                }
                reached = next;
            }
            return NONE;
        }

        private long moveCouples(long reached, int mine, Side other, int theirs, int pair,
                boolean isLeft) {
            long next = 0;
            for (int i = 0; i < LANE; i++) {
                int partners = (int) (reached >> i * LANE) & WHOLE_LANE;
                if (partners != 0) {
                    next |= couplesOf(moveAlone(mine, 1 << i, pair, isLeft),
                            other.moveAlone(theirs, partners, pair, isLeft));
                }
            }
            return next;
        }

        private static long couplesOf(int mine, int theirs) {
            long all = 0;
            for (int i = 0; i < LANE; i++) {
                if ((mine >> i & 1) == 1) {
                    all |= (long) theirs << i * LANE;
                }
            }
            return all;
        }

        /** Without # a left side may begin later, and a right one has all behind it. */
        private int moveAlone(int context, int places, int pair, boolean isLeft) {
            int base = context * LANE;
            int mask = places << base;
            int next = step(mask, pair);
            if ((edges >> context & 1) == 0) {
                next |= isLeft ? closure(mask & starts) : mask & FINALS;
            }
            return next >> base & WHOLE_LANE;
        }
    }

    /** A RULE, read and made ready for the PAIRS of its TONGUE. */
    private static final class Rule {
        static final int ONLY_THERE = 0;
        static final int ALWAYS_THERE = 1;
        static final int BOTH = 2;
        static final int NEVER_THERE = 3;
        static final int CONTEXT_SETS = 8;
        /** Roles of a PAIR: a CONTEXT must hold at it, or none may. */
        static final int DEMANDS = 1;
        static final int BARS = 2;

        int deep;
        int said;
        int op;
        int contexts;
        final Side left = new Side();
        final Side right = new Side();
        final int[] roles = new int[MOST_PAIRS];
        /** Right places to begin with, by the set of CONTEXTS whose left side holds. */
        final int[] opened = new int[CONTEXT_SETS];
        int atStart;
        int anywhere;
        int free;

        void clear(int newDeep, int newSaid) {
            deep = newDeep;
            said = newSaid;
            op = ONLY_THERE;
            contexts = 0;
            left.clear();
            right.clear();
        }

        void copyFrom(Rule other) {
            deep = other.deep;
            said = other.said;
            op = other.op;
            contexts = other.contexts;
            left.copyFrom(other.left);
            right.copyFrom(other.right);
            System.arraycopy(other.roles, 0, roles, 0, roles.length);
            System.arraycopy(other.opened, 0, opened, 0, opened.length);
            atStart = other.atStart;
            anywhere = other.anywhere;
            free = other.free;
        }

        void compile(Tongue tongue) {
            left.compile(tongue);
            right.compile(tongue);
            for (int pair = 0; pair < tongue.pairCount; pair++) {
                roles[pair] = roleOf(tongue.deepOf[pair], tongue.saidOf[pair]);
            }
            for (int set = 0; set < CONTEXT_SETS; set++) {
                int all = 0;
                for (int context = 0; context < MOST_CONTEXTS; context++) {
                    if ((set >> context & 1) == 1) {
                        all |= right.startsOf(context);
                    }
                }
                opened[set] = all;
            }
            atStart = left.closure(left.starts);
            anywhere = left.freeStarts();
            free = right.freeFinals();
        }

        private int roleOf(int pairDeep, int pairSaid) {
            if (pairDeep != deep) {
                return 0;
            }
            if (pairSaid != said) {
                return isAlways() ? BARS : 0;
            }
            if (op == NEVER_THERE) {
                return BARS;
            }
            return op == ALWAYS_THERE ? 0 : DEMANDS;
        }

        private boolean isAlways() {
            return op == ALWAYS_THERE || op == BOTH;
        }

        /** The first place at which the RULE is not KEPT; NONE if it is KEPT. */
        int firstBreak(int[] row, int length) {
            int reached = atStart;
            for (int i = 0; i < length; i++) {
                int role = roles[row[i]];
                if (role != 0 && holdsAt(reached, row, length, i) == (role == BARS)) {
                    return i;
                }
                reached = left.step(reached, row[i]) | anywhere;
            }
            return NONE;
        }

        /** Whether a CONTEXT holds at a place that the left sides have come to. */
        boolean holdsAt(int reached, int[] row, int length, int place) {
            int mask = opened[Side.holding(reached)];
            for (int i = place + 1; i < length && mask != 0; i++) {
                if ((mask & free) != 0) {
                    return true;
                }
                mask = right.step(mask, row[i]);
            }
            return (mask & Side.FINALS) != 0;
        }

        boolean mayClash(Rule other) {
            if (deep != other.deep) {
                return false;
            }
            if (isAlways() && other.isAlways()) {
                return said != other.said;
            }
            boolean alwaysAndNever = isAlways() && other.op == NEVER_THERE;
            boolean neverAndAlways = op == NEVER_THERE && other.isAlways();
            return (alwaysAndNever || neverAndAlways) && said == other.said;
        }

        int shortestClash(Rule other, int pairs) {
            int best = NONE;
            for (int mine = 0; mine < contexts; mine++) {
                for (int theirs = 0; theirs < other.contexts; theirs++) {
                    int before = left.shortestCommon(mine, other.left, theirs, pairs, true);
                    int behind = right.shortestCommon(mine, other.right, theirs, pairs, false);
                    int whole = before + 1 + behind;
                    if (before != NONE && behind != NONE && (best == NONE || whole < best)) {
                        best = whole;
                    }
                }
            }
            return best;
        }
    }

    /** Words of signs, one behind another, in rows made once. */
    private static final class WordList {
        final int[] signs;
        final int[] lengths;
        int count;

        WordList(int most) {
            signs = new int[most * LONGEST_WORD];
            lengths = new int[most];
        }

        void clear() {
            count = 0;
        }

        void copyFrom(WordList other) {
            if (other.signs.length == signs.length) {
                System.arraycopy(other.signs, 0, signs, 0, signs.length);
                System.arraycopy(other.lengths, 0, lengths, 0, lengths.length);
                count = other.count;
            }
        }

        void open() {
            if (count < lengths.length) {
                lengths[count] = 0;
                count++;
            }
        }

        void push(int sign) {
            int word = count - 1;
            if (word >= 0 && lengths[word] < LONGEST_WORD) {
                signs[word * LONGEST_WORD + lengths[word]] = sign;
                lengths[word]++;
            }
        }

        int lengthOf(int word) {
            return word < 0 || word >= count ? NONE : lengths[word];
        }

        /** Copies a word to a place of a row; the answer is the place behind it. */
        int copyTo(int word, int[] row, int place) {
            int length = lengthOf(word);
            if (length < 1 || place < 0 || place + length > row.length) {
                return place;
            }
            System.arraycopy(signs, word * LONGEST_WORD, row, place, length);
            return place + length;
        }
    }

    /** What a TEXT tells. A sign is 0 for silence, else 1 more than the LETTER's number. */
    private static final class Tongue {
        /** The PAIR of a sign with itself, and the others. */
        static final int ROOM_OF_ONE = 1 + MOST_OF_ONE;

        final int[] signAt = new int[26];
        int letterCount;
        final int[] classes = new int[CLASSES];
        /** By 9 * deep + said: 1 more than the PAIR's number, 0 if it is none. */
        final int[] pairAt = new int[SIGNS * SIGNS];
        final int[] deepOf = new int[MOST_PAIRS];
        final int[] saidOf = new int[MOST_PAIRS];
        int pairCount;
        private final int[] extrasOfDeep = new int[SIGNS];
        private final int[] extrasOfSaid = new int[SIGNS];
        /** By 4 * sign + 0 .. 3: 1 more than the PAIR's number, 0 if there is none. */
        final int[] pairsOfDeep = new int[SIGNS * ROOM_OF_ONE];
        final int[] pairsOfSaid = new int[SIGNS * ROOM_OF_ONE];
        final Rule[] rules = new Rule[MOST_RULES];
        int ruleCount;
        final WordList stems = new WordList(MOST_STEMS);
        final WordList ends = new WordList(MOST_ENDS);
        private final int[] row = new int[LONGEST_WORD];

        Tongue() {
            for (int k = 0; k < MOST_RULES; k++) {
                rules[k] = new Rule();
            }
        }

        void clear() {
            Arrays.fill(signAt, 0);
            letterCount = 0;
            Arrays.fill(classes, 0);
            Arrays.fill(pairAt, 0);
            pairCount = 0;
            Arrays.fill(extrasOfDeep, 0);
            Arrays.fill(extrasOfSaid, 0);
            Arrays.fill(pairsOfDeep, 0);
            Arrays.fill(pairsOfSaid, 0);
            ruleCount = 0;
            stems.clear();
            ends.clear();
        }

        void copyFrom(Tongue other) {
            System.arraycopy(other.signAt, 0, signAt, 0, signAt.length);
            letterCount = other.letterCount;
            System.arraycopy(other.classes, 0, classes, 0, classes.length);
            System.arraycopy(other.pairAt, 0, pairAt, 0, pairAt.length);
            System.arraycopy(other.deepOf, 0, deepOf, 0, deepOf.length);
            System.arraycopy(other.saidOf, 0, saidOf, 0, saidOf.length);
            pairCount = other.pairCount;
            System.arraycopy(other.pairsOfDeep, 0, pairsOfDeep, 0, pairsOfDeep.length);
            System.arraycopy(other.pairsOfSaid, 0, pairsOfSaid, 0, pairsOfSaid.length);
            ruleCount = other.ruleCount;
            for (int k = 0; k < ruleCount; k++) {
                rules[k].copyFrom(other.rules[k]);
            }
            stems.copyFrom(other.stems);
            ends.copyFrom(other.ends);
        }

        /** The sign of a small letter that is a LETTER; 0 for all else. */
        int signOf(int character) {
            return character < 'a' || character > 'z' ? 0 : signAt[character - 'a'];
        }

        int pairOf(int deep, int said) {
            if (deep < 0 || deep > letterCount || said < 0 || said > letterCount) {
                return NONE;
            }
            return pairAt[deep * SIGNS + said] - 1;
        }

        void addLetter(int character) {
            if (letterCount < MOST_LETTERS) {
                letterCount++;
                signAt[character - 'a'] = letterCount;
                keepPair(letterCount, letterCount, 0, 0);
            }
        }

        /** False if the PAIR would be one too many. */
        boolean addPair(int deep, int said) {
            if (pairOf(deep, said) != NONE) {
                return true;
            }
            boolean full = pairCount - letterCount >= MOST_EXTRAS;
            if (full || extrasOfDeep[deep] >= MOST_OF_ONE || extrasOfSaid[said] >= MOST_OF_ONE) {
                return false;
            }
            extrasOfDeep[deep]++;
            extrasOfSaid[said]++;
            keepPair(deep, said, extrasOfDeep[deep], extrasOfSaid[said]);
            return true;
        }

        private void keepPair(int deep, int said, int placeOfDeep, int placeOfSaid) {
            deepOf[pairCount] = deep;
            saidOf[pairCount] = said;
            pairCount++;
            pairAt[deep * SIGNS + said] = pairCount;
            pairsOfDeep[deep * ROOM_OF_ONE + placeOfDeep] = pairCount;
            pairsOfSaid[said * ROOM_OF_ONE + placeOfSaid] = pairCount;
        }

        void compile() {
            for (int k = 0; k < ruleCount; k++) {
                rules[k].compile(this);
            }
        }

        /** One RULE of AGES, over the word in place; the answer is its new length. */
        int ageBy(int k, int[] word, int length) {
            Rule rule = rules[k];
            if (rule.op == Rule.NEVER_THERE || rule.deep == 0) {
                return length;
            }
            for (int i = 0; i < length; i++) {
                row[i] = pairOf(word[i], word[i]);
            }
            int reached = rule.atStart;
            int kept = 0;
            for (int i = 0; i < length; i++) {
                int sign = word[i];
                if (sign == rule.deep && rule.holdsAt(reached, row, length, i)) {
                    sign = rule.said;
                }
                if (sign != 0) {
                    word[kept] = sign;
                    kept++;
                }
                reached = rule.left.step(reached, row[i]) | rule.anywhere;
            }
            return kept;
        }
    }

    /** What calls set beside the TONGUE: IN USE, SLACK, ORDER and EXAMPLES. */
    private static final class Standing {
        int inUse;
        int slack = 1;
        final int[] order = new int[MOST_RULES];
        final WordList deeps = new WordList(MOST_EXAMPLES);
        final WordList saids = new WordList(MOST_EXAMPLES);
        int rights;
        /** Of each EXAMPLE and each ROW that it can be: the RULES not KEPT. */
        private final int[] breaks = new int[MOST_EXAMPLES * LONGEST_SEARCHED];
        private final int[] ways = new int[MOST_EXAMPLES];
        private final int[] word = new int[LONGEST_WORD];

        /** As it is behind a new TEXT; SLACK stays. */
        void restart(int rules) {
            inUse = (1 << rules) - 1;
            for (int i = 0; i < MOST_RULES; i++) {
                order[i] = i;
            }
            deeps.clear();
            saids.clear();
            rights = 0;
        }

        void copyFrom(Standing other) {
            inUse = other.inUse;
            slack = other.slack;
            System.arraycopy(other.order, 0, order, 0, order.length);
            deeps.copyFrom(other.deeps);
            saids.copyFrom(other.saids);
            rights = other.rights;
        }

        void moveRule(int place, int rule, int rules) {
            for (int i = 0; i < rules; i++) {
                if (order[i] == rule) {
                    order[i] = order[place];
                    order[place] = rule;
                    return;
                }
            }
        }

        void openExample(boolean right) {
            if (right) {
                rights |= 1 << deeps.count;
            }
            deeps.open();
            saids.open();
        }

        /** Finds what each EXAMPLE breaks; true sets are then told without ROWS. */
        void study(Rows rows, int rules) {
            int all = (1 << rules) - 1;
            for (int i = 0; i < deeps.count; i++) {
                rows.takeSigns(word, saids.copyTo(i, word, 0));
                int length = deeps.copyTo(i, word, 0);
                ways[i] = rows.align(word, length, all, slack);
                for (int way = 0; way < ways[i]; way++) {
                    breaks[i * LONGEST_SEARCHED + way] = rows.masks[way];
                }
            }
        }

        /** The first EXAMPLE that is not as it should be with this set. */
        int firstUntrue(int set) {
            for (int i = 0; i < deeps.count; i++) {
                boolean isSaid = false;
                for (int way = 0; way < ways[i]; way++) {
                    isSaid |= (breaks[i * LONGEST_SEARCHED + way] & set) == 0;
                }
                if (isSaid != ((rights >> i & 1) == 1)) {
                    return i;
                }
            }
            return NONE;
        }

        int leastTrue(int rules) {
            int best = NONE;
            int fewestRules = MOST_RULES + 1;
            for (int set = 0; set < 1 << rules; set++) {
                if (Integer.bitCount(set) < fewestRules && firstUntrue(set) == NONE) {
                    best = set;
                    fewestRules = Integer.bitCount(set);
                }
            }
            return best;
        }
    }

    /** Reads a TEXT into a draft; the first FAULT ends it. */
    private static final class Reader {
        static final int CANT_STAND = 1;
        static final int NOT_TOLD = 2;
        static final int ONE_TOO_MANY = 3;
        static final int AT_END = -1;

        final Tongue draft = new Tongue();
        int faultKind;
        int faultPlace = NONE;
        private final int[] signs = new int[TAPE_ROOM];
        private int length;
        private int at;
        /** What was read last: an S's sign, a P's two, an X's set of signs. */
        private int readSign;
        private int readDeep;
        private int readSaid;
        private int readSet;

        boolean read(int[] tape, int tapeLength) {
            length = Math.min(tapeLength, signs.length);
            System.arraycopy(tape, 0, signs, 0, length);
            at = 0;
            faultKind = 0;
            faultPlace = NONE;
            draft.clear();
            for (int i = 0; i <= length && peek() != AT_END; i++) {
                if (!readStatement()) {
                    return false;
                }
            }
            draft.compile();
            return true;
        }

        private boolean fail(int kind, int place) {
            faultKind = kind;
            faultPlace = place;
            return false;
        }

        /** The next sign that is no blank; at is its place then. */
        private int peek() {
            while (at < length && (signs[at] == ' ' || signs[at] == '\n')) {
                at++;
            }
            return at < length ? signs[at] : AT_END;
        }

        private boolean isNext(int sign) {
            return peek() == sign;
        }

        private boolean skipIf(int sign) {
            if (peek() != sign) {
                return false;
            }
            at++;
            return true;
        }

        private boolean expect(int sign) {
            return skipIf(sign) || fail(CANT_STAND, at);
        }

        private static boolean isSmall(int sign) {
            return sign >= 'a' && sign <= 'z';
        }

        private static boolean isClass(int sign) {
            return sign >= 'A' && sign < 'A' + CLASSES;
        }

        private static boolean startsItem(int sign) {
            return isSmall(sign) || isClass(sign) || sign == '0' || sign == '?';
        }

        private boolean readStatement() {
            int start = at;
            while (at < length && isSmall(signs[at])) {
                at++;
            }
            boolean whole;
            if (isKeyword("letters", start)) {
                whole = readLetters();
            } else if (isKeyword("class", start)) {
                whole = readClass();
            } else if (isKeyword("pair", start)) {
                whole = readPair();
            } else if (isKeyword("rule", start)) {
                whole = readRule(start);
            } else if (isKeyword("stem", start)) {
                whole = readPart(draft.stems, start, 1);
            } else if (isKeyword("end", start)) {
                whole = readPart(draft.ends, start, 0);
            } else {
                whole = fail(CANT_STAND, start);
            }
            return whole && expect(';');
        }

        private boolean isKeyword(String keyword, int start) {
            if (at - start != keyword.length()) {
                return false;
            }
            for (int i = 0; i < keyword.length(); i++) {
                if (signs[start + i] != keyword.charAt(i)) {
                    return false;
                }
            }
            return true;
        }

        private boolean readLetters() {
            int told = 0;
            while (at < length && isSmall(peek())) {
                if (draft.signOf(signs[at]) != 0) {
                    return fail(NOT_TOLD, at);
                }
                if (draft.letterCount == MOST_LETTERS) {
                    return fail(ONE_TOO_MANY, at);
                }
                draft.addLetter(signs[at]);
                at++;
                told++;
            }
            return told > 0 || fail(CANT_STAND, at);
        }

        private boolean readClass() {
            if (!isClass(peek())) {
                return fail(CANT_STAND, at);
            }
            int which = signs[at] - 'A';
            int set = 0;
            at++;
            while (at < length && isSmall(peek())) {
                int sign = draft.signOf(signs[at]);
                if (sign == 0) {
                    return fail(NOT_TOLD, at);
                }
                set |= 1 << sign;
                at++;
            }
            draft.classes[which] = set;
            return set != 0 || fail(CANT_STAND, at);
        }

        private boolean readS() {
            int sign = peek();
            if (!isSmall(sign) && sign != '0') {
                return fail(CANT_STAND, at);
            }
            readSign = draft.signOf(sign);
            if (readSign == 0 && sign != '0') {
                return fail(NOT_TOLD, at);
            }
            at++;
            return true;
        }

        private boolean readPair() {
            peek();
            int start = at;
            if (!readS()) {
                return false;
            }
            readDeep = readSign;
            if (!expect(':') || !readS()) {
                return false;
            }
            readSaid = readSign;
            if (readDeep == 0 && readSaid == 0) {
                return fail(NOT_TOLD, start);
            }
            return draft.addPair(readDeep, readSaid) || fail(ONE_TOO_MANY, start);
        }

        private boolean readRule(int keywordPlace) {
            if (draft.ruleCount == MOST_RULES) {
                return fail(ONE_TOO_MANY, keywordPlace);
            }
            if (!readPair()) {
                return false;
            }
            Rule rule = draft.rules[draft.ruleCount];
            rule.clear(readDeep, readSaid);
            if (!readOp(rule)) {
                return false;
            }
            for (int i = 0; i <= MOST_CONTEXTS; i++) {
                if (!readContext(rule)) {
                    return false;
                }
                if (!isNext('|')) {
                    break;
                }
                if (rule.contexts == MOST_CONTEXTS) {
                    return fail(ONE_TOO_MANY, at);
                }
                at++;
            }
            draft.ruleCount++;
            return true;
        }

        private boolean readOp(Rule rule) {
            peek();
            int start = at;
            if (standsHere("=>")) {
                rule.op = Rule.ONLY_THERE;
            } else if (standsHere("<=>")) {
                rule.op = Rule.BOTH;
            } else if (standsHere("<=")) {
                rule.op = Rule.ALWAYS_THERE;
            } else if (standsHere("/<=")) {
                rule.op = Rule.NEVER_THERE;
            } else {
                return fail(CANT_STAND, start);
            }
            return rule.deep != 0 || !rule.isAlways() || fail(NOT_TOLD, start);
        }

        private boolean standsHere(String op) {
            if (at + op.length() > length) {
                return false;
            }
            for (int i = 0; i < op.length(); i++) {
                if (signs[at + i] != op.charAt(i)) {
                    return false;
                }
            }
            at += op.length();
            return true;
        }

        private boolean readContext(Rule rule) {
            int context = rule.contexts;
            rule.left.openContext(context);
            rule.right.openContext(context);
            if (skipIf('#')) {
                rule.left.putEdge(context);
            }
            if (!readItems(rule.left, context) || !expect('_') || !readItems(rule.right, context)) {
                return false;
            }
            if (skipIf('#')) {
                rule.right.putEdge(context);
            }
            rule.contexts++;
            return true;
        }

        /** A FAULT 2 at an ITEM's first sign comes ahead of the FAULT 3 there. */
        private boolean readItems(Side side, int context) {
            for (int count = 0; count <= MOST_ITEMS && startsItem(peek()); count++) {
                int start = at;
                int first = signs[at];
                if (!readX()) {
                    return false;
                }
                int deepSet = readSet;
                int saidSet = isClass(first) ? readSet | Side.ITSELF : readSet;
                boolean isCouple = skipIf(':');
                if (isCouple && first == '0' && isNext('0')) {
                    return fail(NOT_TOLD, start);
                }
                if (count == MOST_ITEMS) {
                    return fail(ONE_TOO_MANY, start);
                }
                if (isCouple) {
                    if (!readX()) {
                        return false;
                    }
                    saidSet = readSet;
                }
                side.addItem(context, deepSet, saidSet, skipIf('*'));
            }
            return true;
        }

        private boolean readX() {
            int sign = peek();
            if (isSmall(sign)) {
                int letter = draft.signOf(sign);
                readSet = letter == 0 ? 0 : 1 << letter;
            } else if (isClass(sign)) {
                readSet = draft.classes[sign - 'A'];
            } else if (sign == '0' || sign == '?') {
                readSet = sign == '0' ? 1 : Side.ALL_SIGNS;
            } else {
                return fail(CANT_STAND, at);
            }
            if (readSet == 0) {
                return fail(NOT_TOLD, at);
            }
            at++;
            return true;
        }

        private boolean readPart(WordList list, int keywordPlace, int atLeast) {
            if (list.count == list.lengths.length) {
                return fail(ONE_TOO_MANY, keywordPlace);
            }
            list.open();
            int count = 0;
            while (at < length && isSmall(peek())) {
                int sign = draft.signOf(signs[at]);
                if (sign == 0) {
                    return fail(NOT_TOLD, at);
                }
                if (count == LONGEST_PART) {
                    return fail(ONE_TOO_MANY, at);
                }
                list.push(sign);
                at++;
                count++;
            }
            return count >= atLeast || fail(CANT_STAND, at);
        }
    }

    /**
     * How each RULE stands behind each PAIR of a ROW that is being built: the left
     * places reached, the right places that must not come to an end, and those of
     * which one must.
     */
    private static final class Track {
        static final int DEPTHS = LONGEST_SEARCHED + 1;
        static final int MOST_OWED = LONGEST_SEARCHED + 1;
        static final int MOST_WRITTEN = MOST_RULES * (1 + MOST_OWED);
        static final int MASK_BITS = MOST_CONTEXTS * Side.LANE;

        private final int[] left = new int[DEPTHS * MOST_RULES];
        private final int[] barred = new int[DEPTHS * MOST_RULES];
        private final int[] owedCount = new int[DEPTHS * MOST_RULES];
        private final int[] owed = new int[DEPTHS * MOST_RULES * MOST_OWED];
        private final int[] broken = new int[DEPTHS];

        void begin(Tongue tongue) {
            broken[0] = 0;
            for (int k = 0; k < tongue.ruleCount; k++) {
                left[k] = tongue.rules[k].atStart;
                barred[k] = 0;
                owedCount[k] = 0;
            }
        }

        /** One more PAIR; the answer is which of the RULES are broken by now. */
        int step(Tongue tongue, int watched, int depth, int pair) {
            int all = broken[depth];
            int live = watched & ~all;
            int from = depth * MOST_RULES;
            for (int k = 0; k < MOST_RULES && live >> k != 0; k++) {
                if ((live >> k & 1) == 1) {
                    Rule rule = tongue.rules[k];
                    int to = from + k + MOST_RULES;
                    left[to] = rule.left.step(left[from + k], pair) | rule.anywhere;
                    barred[to] = 0;
                    owedCount[to] = 0;
                    boolean isAtRest = (rule.roles[pair] | barred[from + k] | owedCount[from + k]) == 0;
                    if (!isAtRest && advance(rule, from + k, pair)) {
                        all |= 1 << k;
                    }
                }
            }
            broken[depth + 1] = all;
            return all;
        }

        /** What is open on the right goes on, and what the new PAIR asks comes to it. */
        private boolean advance(Rule rule, int from, int pair) {
            int to = from + MOST_RULES;
            int role = rule.roles[pair];
            int opening = role == 0 ? 0 : rule.opened[Side.holding(left[from])];
            int bars = rule.right.step(barred[from], pair);
            if (role == Rule.BARS) {
                bars |= opening;
            }
            barred[to] = bars;
            boolean isBroken = (bars & rule.free) != 0;
            for (int i = 0; i < owedCount[from] && !isBroken; i++) {
                isBroken = !owe(rule, to, rule.right.step(owed[from * MOST_OWED + i], pair));
            }
            if (role == Rule.DEMANDS && !isBroken) {
                isBroken = !owe(rule, to, opening);
            }
            return isBroken;
        }

        /** Keeps what is owed in order, each once; false if it can't be met any more. */
        private boolean owe(Rule rule, int to, int mask) {
            if ((mask & rule.free) != 0) {
                return true;
            }
            int base = to * MOST_OWED;
            int i = base + owedCount[to];
            while (i > base && owed[i - 1] > mask) {
                i--;
            }
            boolean isKnown = i > base && owed[i - 1] == mask;
            if (mask == 0 || isKnown || owedCount[to] >= MOST_OWED) {
                return mask != 0;
            }
            for (int behind = base + owedCount[to]; behind > i; behind--) {
                owed[behind] = owed[behind - 1];
            }
            owed[i] = mask;
            owedCount[to]++;
            return true;
        }

        /** Which of the RULES are broken, if the ROW ends here. */
        int finish(int watched, int depth) {
            int all = broken[depth];
            int live = watched & ~all;
            int at = depth * MOST_RULES;
            for (int k = 0; k < MOST_RULES && live >> k != 0; k++) {
                boolean isAtRest = (barred[at + k] | owedCount[at + k]) == 0;
                if ((live >> k & 1) == 1 && !isAtRest && !endsWell(at + k)) {
                    all |= 1 << k;
                }
            }
            return all;
        }

        private boolean endsWell(int at) {
            if ((barred[at] & Side.FINALS) != 0) {
                return false;
            }
            for (int i = 0; i < owedCount[at]; i++) {
                if ((owed[at * MOST_OWED + i] & Side.FINALS) == 0) {
                    return false;
                }
            }
            return true;
        }

        /** Writes all that what comes can hang on; the answer is the place behind it. */
        int writeTo(long[] row, int place, int watched, int depth) {
            int next = place;
            for (int k = 0; k < MOST_RULES; k++) {
                if ((watched >> k & 1) == 1) {
                    int at = depth * MOST_RULES + k;
                    long both = (long) barred[at] << MASK_BITS | left[at];
                    row[next] = (long) owedCount[at] << 2 * MASK_BITS | both;
                    next++;
                    for (int i = 0; i < owedCount[at]; i++) {
                        row[next] = owed[at * MOST_OWED + i];
                        next++;
                    }
                }
            }
            return next;
        }
    }

    /** States of a search behind which no ALLOWED ROW lies, each looked into once. */
    private static final class DeadEnds {
        static final int SLOTS = 4096;
        static final int MOST = 3072;
        static final int POOL = 32768;

        /** 1 more than the place in the pool, 0 if the slot is free. */
        private final int[] slots = new int[SLOTS];
        private final long[] pool = new long[POOL];
        private final long[] key = new long[1 + Track.MOST_WRITTEN];
        private int keyLength;
        private int count;
        private int used;

        void clear() {
            Arrays.fill(slots, 0);
            count = 0;
            used = 0;
        }

        void makeKey(Track track, int watched, int depth, int rest) {
            key[0] = rest;
            keyLength = track.writeTo(key, 1, watched, depth);
        }

        boolean hasKey() {
            int slot = slotOfKey();
            return slot != NONE && slots[slot] != 0;
        }

        /** A full pool keeps no more: the search is slower then, not wrong. */
        void addKey() {
            int slot = slotOfKey();
            boolean isFull = count >= MOST || used + keyLength + 1 > POOL;
            if (slot == NONE || slots[slot] != 0 || isFull) {
                return;
            }
            pool[used] = keyLength;
            System.arraycopy(key, 0, pool, used + 1, keyLength);
            slots[slot] = used + 1;
            used += keyLength + 1;
            count++;
        }

        private int slotOfKey() {
            long hash = keyLength;
            for (int i = 0; i < keyLength; i++) {
                hash = (hash ^ key[i]) * 0x5851F42D4C957F2DL;
                hash ^= hash >>> 32;
            }
            for (int i = 0; i < SLOTS; i++) {
                int slot = (int) (hash + i) & SLOTS - 1;
                if (slots[slot] == 0 || isKeyAt(slots[slot] - 1)) {
                    return slot;
                }
            }
            return NONE;
        }

        private boolean isKeyAt(int place) {
            if (pool[place] != keyLength) {
                return false;
            }
            for (int i = 0; i < keyLength; i++) {
                if (pool[place + 1 + i] != key[i]) {
                    return false;
                }
            }
            return true;
        }
    }

    /**
     * Words in order, each once: a word is one number of nine digits to the base of
     * nine, a letter's sign each, the first the highest, 0 behind the last.
     */
    private static final class Words {
        static final int MOST = 200;
        static final int[] WEIGHTS = {43046721, 4782969, 531441, 59049, 6561, 729, 81, 9, 1};

        private final int[] codes = new int[MOST];
        int count;
        boolean tooMany;

        void clear() {
            count = 0;
            tooMany = false;
        }

        void add(int code) {
            int low = 0;
            int high = count;
            while (low < high) {
                int middle = (low + high) / 2;
                if (codes[middle] < code) {
                    low = middle + 1;
                } else {
                    high = middle;
                }
            }
            if (low < count && codes[low] == code) {
                return;
            }
            if (count == MOST) {
                tooMany = true;
                return;
            }
            System.arraycopy(codes, low, codes, low + 1, count - low);
            codes[low] = code;
            count++;
        }

        /** The sign at a place of a word told as a number; 0 behind its end. */
        static int signIn(int code, int place) {
            return code / WEIGHTS[place] % SIGNS;
        }

        int letterOf(int word, int place) {
            if (word < 0 || word >= count || place < 0 || place >= WEIGHTS.length) {
                return NONE;
            }
            return signIn(codes[word], place) - 1;
        }

        int lengthOf(int word) {
            for (int place = 0; place < WEIGHTS.length; place++) {
                if (letterOf(word, place) == NONE) {
                    return place;
                }
            }
            return WEIGHTS.length;
        }
    }

    /** Searches through the ROWS of a word that is taken first. */
    private static final class Rows {
        /** A deep word of 3 has 64 + 4 * 3 * 64 ROWS at most. */
        static final int MOST_LISTED = 1024;
        /** The next PAIR is one of the next sign, or one of silence. */
        static final int FIRST_SILENT = Tongue.ROOM_OF_ONE;
        static final int CHOICES = 2 * FIRST_SILENT;
        static final int SHORT_UNIT = 59049;
        static final int SHORT_CODES = 6561;

        final Tongue tongue = new Tongue();
        final Words words = new Words();
        private final Track track = new Track();
        private final DeadEnds deadEnds = new DeadEnds();
        private final int[] given = new int[LONGEST_WORD];
        private int length;
        private boolean deepGiven;
        private boolean collecting;
        private int watched;
        /** A ROW that is not KEPT by both sets is left. */
        private int firstSet;
        private int secondSet;
        /** The PAIR that a listed ROW must have, or NONE. */
        private int wanted = NONE;
        private final int[] row = new int[LONGEST_SEARCHED];
        final int[] codes = new int[MOST_LISTED];
        final int[] masks = new int[MOST_LISTED];
        int listed;
        private final int[] marks = new int[SHORT_CODES];
        /** By a set of RULES: 1 if one of them must stay IN USE. */
        private final int[] needed = new int[SETS];

        void takeSigns(int[] signs, int count) {
            length = Math.max(0, Math.min(count, Math.min(signs.length, LONGEST_WORD)));
            System.arraycopy(signs, 0, given, 0, length);
        }

        /** The word of so many LETTERS with this number, in order from 0. */
        void takeNumbered(int letters, int number) {
            int rest = number;
            int base = Math.max(1, tongue.letterCount);
            length = Math.max(0, Math.min(letters, LONGEST_WORD));
            for (int i = length - 1; i >= 0; i--) {
                given[i] = 1 + rest % base;
                rest /= base;
            }
        }

        /** Puts all words into Words, up to one too many. */
        void collect(boolean isDeepGiven, int inUse, int slack) {
            deepGiven = isDeepGiven;
            collecting = true;
            watched = deepGiven ? breakable(inUse) : inUse;
            firstSet = inUse;
            secondSet = inUse;
            wanted = NONE;
            deadEnds.clear();
            track.begin(tongue);
            descend(0, 0, slack, 0, 0);
        }

        /** Lists ROWS of a deep word: its said words and which RULES each breaks. */
        void list(int oneSet, int otherSet, int watchedRules, int slack) {
            deepGiven = true;
            collecting = false;
            watched = breakable(watchedRules);
            firstSet = oneSet;
            secondSet = otherSet;
            listed = 0;
            track.begin(tongue);
            descend(0, 0, slack, 0, 0);
            wanted = NONE;
        }

        /** A RULE can't be broken by a deep word without its deep S: it needs no watching. */
        private int breakable(int set) {
            int some = 0;
            for (int k = 0; k < tongue.ruleCount; k++) {
                if ((set >> k & 1) == 1 && hasSign(tongue.rules[k].deep)) {
                    some |= 1 << k;
                }
            }
            return some;
        }

        /** Whether a ROW of the word taken may have the deep S. */
        private boolean hasSign(int sign) {
            boolean has = sign == 0;
            for (int i = 0; i < length; i++) {
                has |= given[i] == sign;
            }
            return has;
        }

        /** Whether a whole ROW lies behind this one of depth PAIRS. */
        private boolean descend(int depth, int at, int slackLeft, int code, int written) {
            boolean isWorthKeeping = collecting && length - at >= 2;
            int rest = at * 2 + slackLeft;
            if (isWorthKeeping) {
                deadEnds.makeKey(track, watched, depth, rest);
                if (deadEnds.hasKey()) {
                    return false;
                }
            }
            boolean any = at == length && complete(depth, code);
            int choices = depth < LONGEST_SEARCHED ? CHOICES : 0;
            for (int i = at < length ? 0 : FIRST_SILENT; i < choices && !words.tooMany; i++) {
                int sign = i < FIRST_SILENT ? given[at] : 0;
                int pair = choiceOf(sign, i % FIRST_SILENT);
                if (pair == NONE) {
                    continue;
                }
                int other = deepGiven ? tongue.saidOf[pair] : tongue.deepOf[pair];
                int cost = sign == 0 || other == 0 ? 1 : 0;
                if (cost > slackLeft || isLeft(track.step(tongue, watched, depth, pair))) {
                    continue;
                }
                row[depth] = pair;
                int nextAt = sign == 0 ? at : at + 1;
                int grown = other == 0 ? code : code + other * Words.WEIGHTS[written];
                int nextWritten = other == 0 ? written : written + 1;
                any |= descend(depth + 1, nextAt, slackLeft - cost, grown, nextWritten);
            }
            if (isWorthKeeping && !any && !words.tooMany) {
                deadEnds.makeKey(track, watched, depth, rest);
                deadEnds.addKey();
            }
            return any;
        }

        private int choiceOf(int sign, int place) {
            int at = sign * FIRST_SILENT + place;
            return (deepGiven ? tongue.pairsOfDeep[at] : tongue.pairsOfSaid[at]) - 1;
        }

        private boolean isLeft(int broken) {
            return (broken & firstSet) != 0 && (broken & secondSet) != 0;
        }

        private boolean complete(int depth, int code) {
            int broken = track.finish(watched, depth);
            if (isLeft(broken) || !hasWanted(depth)) {
                return false;
            }
            if (collecting) {
                words.add(code);
            } else if (listed < MOST_LISTED) {
                codes[listed] = code;
                masks[listed] = broken;
                listed++;
            }
            return true;
        }

        private boolean hasWanted(int depth) {
            boolean has = wanted == NONE;
            for (int i = 0; i < depth; i++) {
                has |= row[i] == wanted;
            }
            return has;
        }

        boolean hasAllowedRowWith(int pair, int inUse, int slack) {
            if (!hasSign(tongue.deepOf[pair])) {
                return false;
            }
            wanted = pair;
            list(inUse, inUse, inUse, slack);
            return listed > 0;
        }

        /** Whether the word taken is SAID otherwise by one set than by the other. */
        boolean tellsApart(int one, int other, int slack) {
            if (breakable(one ^ other) == 0) {
                return false;
            }
            list(one, other, one | other, slack);
            for (int i = 0; i < listed; i++) {
                int byOne = (masks[i] & one) == 0 ? 1 : 0;
                int byOther = (masks[i] & other) == 0 ? 2 : 0;
                marks[shortCode(i)] |= byOne | byOther;
            }
            boolean apart = false;
            for (int i = 0; i < listed; i++) {
                int mark = marks[shortCode(i)];
                apart |= mark == 1 || mark == 2;
            }
            clearMarks();
            return apart;
        }

        /** Words of up to four letters have codes with five empty places. */
        private int shortCode(int i) {
            return Math.min(codes[i] / SHORT_UNIT, SHORT_CODES - 1);
        }

        private void clearMarks() {
            for (int i = 0; i < listed; i++) {
                marks[shortCode(i)] = 0;
            }
        }

        void clearNeeded() {
            Arrays.fill(needed, 0);
        }

        /** Notes, of which sets of RULES one at least must stay for the word taken. */
        void noteNeeded(int inUse, int slack) {
            list(0, 0, inUse, slack);
            for (int i = 0; i < listed; i++) {
                if (masks[i] == 0) {
                    marks[shortCode(i)] = 1;
                }
            }
            for (int i = 0; i < listed; i++) {
                if (marks[shortCode(i)] == 0) {
                    needed[masks[i]] = 1;
                }
            }
            clearMarks();
        }

        int leastThatMeetsNeeds(int inUse) {
            int best = inUse;
            for (int set = 0; set < SETS; set++) {
                boolean isFewer = Integer.bitCount(set) < Integer.bitCount(best);
                if ((set & ~inUse) == 0 && isFewer && meetsNeeds(set)) {
                    best = set;
                }
            }
            return best;
        }

        private boolean meetsNeeds(int set) {
            for (int mask = 0; mask < SETS; mask++) {
                if (needed[mask] == 1 && (mask & set) == 0) {
                    return false;
                }
            }
            return true;
        }

        boolean isSaidAs(int[] deep, int deepLength, int inUse, int slack) {
            int ways = align(deep, deepLength, inUse, slack);
            for (int way = 0; way < ways; way++) {
                if (masks[way] == 0) {
                    return true;
                }
            }
            return false;
        }

        /**
         * Each ROW of a deep word that is said as the word taken, as the watched RULES
         * that it breaks: how many. One PAIR with silence makes up for one letter.
         */
        int align(int[] deep, int deepLength, int watchedRules, int slack) {
            int gap = deepLength - length;
            int whole = Math.max(deepLength, length);
            if (Math.abs(gap) > slack || whole > LONGEST_SEARCHED) {
                return 0;
            }
            int ways = 0;
            int places = gap == 0 ? 1 : whole;
            for (int silent = 0; silent < places; silent++) {
                if (layRow(deep, gap, silent, whole)) {
                    masks[ways] = breaksOf(watchedRules, whole);
                    ways++;
                }
            }
            return ways;
        }

        private boolean layRow(int[] deep, int gap, int silent, int whole) {
            int deepAt = 0;
            int saidAt = 0;
            for (int i = 0; i < whole; i++) {
                boolean isSilent = gap != 0 && i == silent;
                int deepSign = 0;
                int saidSign = 0;
                if (!isSilent || gap > 0) {
                    deepSign = deep[deepAt];
                    deepAt++;
                }
                if (!isSilent || gap < 0) {
                    saidSign = given[saidAt];
                    saidAt++;
                }
                row[i] = tongue.pairOf(deepSign, saidSign);
                if (row[i] == NONE) {
                    return false;
                }
            }
            return true;
        }

        private int breaksOf(int watchedRules, int whole) {
            int all = 0;
            for (int k = 0; k < tongue.ruleCount; k++) {
                if ((watchedRules >> k & 1) == 1 && tongue.rules[k].firstBreak(row, whole) != NONE) {
                    all |= 1 << k;
                }
            }
            return all;
        }
    }

    /** Finds the BEST ORDER; words of up to two LETTERS have numbers, 0 the empty one. */
    private static final class BestOrder {
        static final int WORDS = 73;
        static final int FIRST_OF_TWO = 9;

        private final int[] after = new int[MOST_RULES * WORDS];
        /** By a word's number and that of one that may be said: 1 if it is SAID so. */
        private final int[] agrees = new int[WORDS * WORDS];
        private final int[] inUse = new int[MOST_ORDERED];
        private int ordered;
        private final int[] path = new int[MOST_ORDERED];
        /** The words behind each of the RULES on the path. */
        private final int[] stages = new int[(MOST_ORDERED + 1) * WORDS];
        final int[] best = new int[MOST_ORDERED];
        int bestAgreed;
        private final int[] word = new int[2];
        private int knownLength;
        private int knownChanges = NONE;

        int wordCount(int letters) {
            return knownLength == 2 ? letters + letters * letters : letters;
        }

        void refresh(int n, Rows rows, Standing standing, int changes) {
            if (knownChanges == changes && knownLength == n) {
                return;
            }
            knownChanges = changes;
            knownLength = n;
            ordered = 0;
            for (int k = 0; k < rows.tongue.ruleCount; k++) {
                if ((standing.inUse >> k & 1) == 1 && ordered < MOST_ORDERED) {
                    inUse[ordered] = k;
                    ordered++;
                    fillAfter(rows.tongue, k);
                }
            }
            fillAgrees(rows, standing);
            for (int i = 0; i < WORDS; i++) {
                stages[i] = i;
            }
            bestAgreed = NONE;
            tryOrders(0, 0);
        }

        private static int numberOf(int first, int second) {
            if (first == 0) {
                return 0;
            }
            return second == 0 ? first : FIRST_OF_TWO + (first - 1) * MOST_LETTERS + second - 1;
        }

        private void fillAfter(Tongue tongue, int k) {
            for (int first = 0; first <= tongue.letterCount; first++) {
                int most = first == 0 ? 0 : tongue.letterCount;
                for (int second = 0; second <= most; second++) {
                    word[0] = first;
                    word[1] = second;
                    int letters = first == 0 ? 0 : second == 0 ? 1 : 2;
                    int left = tongue.ageBy(k, word, letters);
                    int one = left > 0 ? word[0] : 0;
                    int two = left > 1 ? word[1] : 0;
                    after[k * WORDS + numberOf(first, second)] = numberOf(one, two);
                }
            }
        }

        private void fillAgrees(Rows rows, Standing standing) {
            Arrays.fill(agrees, 0);
            int letters = rows.tongue.letterCount;
            for (int first = 1; first <= letters; first++) {
                int most = knownLength == 2 ? letters : 0;
                for (int second = 0; second <= most; second++) {
                    word[0] = first;
                    word[1] = second;
                    rows.takeSigns(word, second == 0 ? 1 : 2);
                    rows.list(standing.inUse, standing.inUse, standing.inUse, standing.slack);
                    noteSaid(rows, numberOf(first, second));
                }
            }
        }

        private void noteSaid(Rows rows, int number) {
            for (int i = 0; i < rows.listed; i++) {
                int code = rows.codes[i];
                if (Words.signIn(code, 2) == 0) {
                    int said = numberOf(Words.signIn(code, 0), Words.signIn(code, 1));
                    agrees[number * WORDS + said] = 1;
                }
            }
        }

        /** All orders, the first first, so that of several best ones the first stays. */
        private void tryOrders(int depth, int taken) {
            if (depth >= ordered) {
                judge(depth);
                return;
            }
            for (int i = 0; i < ordered; i++) {
                if ((taken >> i & 1) == 0) {
                    path[depth] = inUse[i];
                    for (int w = 0; w < WORDS; w++) {
                        int before = stages[depth * WORDS + w];
                        stages[(depth + 1) * WORDS + w] = after[inUse[i] * WORDS + before];
                    }
                    tryOrders(depth + 1, taken | 1 << i);
                }
            }
        }

        private void judge(int depth) {
            int agreed = 0;
            for (int w = 0; w < WORDS; w++) {
                agreed += agrees[w * WORDS + stages[depth * WORDS + w]];
            }
            if (agreed > bestAgreed) {
                bestAgreed = agreed;
                System.arraycopy(path, 0, best, 0, ordered);
            }
        }
    }
}
