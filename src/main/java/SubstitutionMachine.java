/**
 * A normaliser for the untyped lambda calculus with de Bruijn indices: beta reduction by several
 * strategies, and a machine with explicit substitutions.
 *
 * Terms are held as rows of tokens in prefix order, because a term may be 200 levels deep and
 * walking a row needs no recursion. All rows are made with the object and used again by every call.
 */
public final class SubstitutionMachine {
    public static final int NO_SUCH_INDEX = -1;
    public static final int BAD_VALUE = -2;
    public static final int NOT_POSSIBLE = -3;
    public static final int FULL = -4;
    public static final int NONE = -9;
    public static final int APPLICATION = 1000, ABSTRACTION = 1001;
    public static final int LEFTMOST_OUTERMOST = 0, LEFTMOST_INNERMOST = 1, RIGHTMOST = 2, WEAK_HEAD = 3;

    // Free variables have numbers up to 9 (a text has one digit), and no rule raises them; so an index
    // is at most 9 more than the number of binders around it, and never meets the tokens from 1000 on.
    private static final int CLOSURE = 1002;
    private static final int NO_TOKEN = -1;

    private static final int BETA = 0, APPLY = 1, ABSTRACT = 2, LOOKUP = 3, MERGE = 4;
    private static final int RULES = 5;
    private static final int STRATEGIES = 4;

    private static final int TERM_LIMIT = 200;
    private static final int EXTENDED_LIMIT = 300;
    private static final int MACHINE_STEP_LIMIT = 600;
    private static final int TEXT_LIMIT = 60;
    private static final int REMEMBERED_LIMIT = 14;
    private static final int OBSERVATION_LIMIT = 6;

    private static final int NORMAL_FORM_STEPS = 200;
    private static final int RUN_STEPS = 50;
    private static final int PREDICTED_STEPS = 200;
    private static final int OBSERVED_STEPS = 50;
    private static final int RANDOM_STEPS = 30;
    private static final int SCRIPT_RUN_STEPS = 9;
    private static final int SCRIPT_COMMANDS = 4;
    private static final int GREATEST_CODE = 255;
    private static final int GREATEST_FREE_NUMBER = 9;

    private static final int FIRST_FREE_NAME = 65;
    private static final int FIRST_BOUND_NAME = 97;

    private static final long SEED_FACTOR = 6364136223846793005L;
    private static final long SEED_ADDEND = 1442695040888963407L;

    private final Term term = new Term();
    private final Term copy = new Term();
    private final Term trial = new Term();
    private final Term firstSlot = new Term();
    private final Term secondSlot = new Term();
    private final Outline outline = new Outline();
    private final Reducer reducer = new Reducer();
    private final Machine machine = new Machine();
    private final History history = new History();
    private final TermText text = new TermText();
    private final Observations observations = new Observations();
    private long randomSeed = 0L;

    public SubstitutionMachine() {
        term.add(0);
    }

    // ---- term text

    public int append(int c) {
        if (c < 0 || c > GREATEST_CODE) {
            return BAD_VALUE;
        }
        return text.put(c) ? text.length() : FULL;
    }

    public int clearText() {
        int previous = text.length();
        text.clear();
        return previous;
    }

    public int errorPosition() {
        return text.firstError();
    }

    public int load() {
        if (text.firstError() != NONE) {
            return NOT_POSSIBLE;
        }
        text.writeTo(term);
        history.forgetAll();
        firstSlot.clear();
        secondSlot.clear();
        return term.length();
    }

    // ---- reading the term

    public int size() {
        return term.length();
    }

    public int tokenAt(int position) {
        return term.has(position) ? term.token(position) : NO_SUCH_INDEX;
    }

    public int nameAt(int position) {
        if (!term.has(position)) {
            return NO_SUCH_INDEX;
        }
        int token = term.token(position);
        if (token == APPLICATION) {
            return NONE;
        }
        outline.measure(term);
        int depth = outline.depthAt(position);
        if (token == ABSTRACTION) {
            return FIRST_BOUND_NAME + depth;
        }
        return token < depth ? FIRST_BOUND_NAME + depth - 1 - token : FIRST_FREE_NAME + token - depth;
    }

    public int redexCount() {
        return Reducer.countRedexes(term);
    }

    public int chosenRedex(int strategy) {
        return isStrategy(strategy) ? Reducer.choose(term, strategy) : BAD_VALUE;
    }

    public int freeVariables() {
        outline.measure(term);
        int bits = 0;
        for (int i = 0; i < term.length(); i++) {
            int number = term.token(i) - outline.depthAt(i);
            if (isVariable(term.token(i)) && number >= 0) {
                bits |= 1 << number;
            }
        }
        return bits;
    }

    // ---- actions

    public int step(int strategy) {
        if (!isStrategy(strategy)) {
            return BAD_VALUE;
        }
        int position = Reducer.choose(term, strategy);
        if (position == NONE) {
            return NOT_POSSIBLE;
        }
        copy.copyFrom(term);
        return reducer.contract(copy, position) ? actWithCopy() : FULL;
    }

    public int run(int strategy, int limit) {
        if (!isStrategy(strategy) || limit < 1 || limit > RUN_STEPS) {
            return BAD_VALUE;
        }
        copy.copyFrom(term);
        int steps = reducer.perform(copy, strategy, limit);
        actWithCopy();
        return steps;
    }

    public int abstractTerm() {
        copy.copyFrom(term);
        return copy.wrapInAbstraction() ? actWithCopy() : FULL;
    }

    public int applyTo(int slot) {
        if (!isSlot(slot)) {
            return NO_SUCH_INDEX;
        }
        Term argument = slotTerm(slot);
        if (argument.length() == 0) {
            return NOT_POSSIBLE;
        }
        copy.clear();
        copy.add(APPLICATION);
        copy.addRange(term, 0, term.length());
        copy.addRange(argument, 0, argument.length());
        return copy.isTooLarge() ? FULL : actWithCopy();
    }

    public int substitute(int j, int slot) {
        if (!isSlot(slot)) {
            return NO_SUCH_INDEX;
        }
        if (j < 0 || j > GREATEST_FREE_NUMBER) {
            return BAD_VALUE;
        }
        Term replacement = slotTerm(slot);
        if (replacement.length() == 0) {
            return NOT_POSSIBLE;
        }
        copy.copyFrom(term);
        return reducer.replaceFree(copy, j, replacement) ? actWithCopy() : FULL;
    }

    public int undo() {
        return history.takeBack(term) ? history.count() : NOT_POSSIBLE;
    }

    // ---- predictions

    public int stepsOfRun(int strategy, int limit) {
        return isPrediction(strategy, limit) ? performOnCopy(strategy, limit) : BAD_VALUE;
    }

    public int sizeAfterRun(int strategy, int limit) {
        if (!isPrediction(strategy, limit)) {
            return BAD_VALUE;
        }
        performOnCopy(strategy, limit);
        return copy.length();
    }

    public int normalSize() {
        return normaliseInto(copy, term) ? copy.length() : NONE;
    }

    public int normalTokenAt(int position) {
        if (!normaliseInto(copy, term)) {
            return NONE;
        }
        return copy.has(position) ? copy.token(position) : NO_SUCH_INDEX;
    }

    public int isEquivalent(int slot) {
        if (!isSlot(slot)) {
            return NO_SUCH_INDEX;
        }
        Term other = slotTerm(slot);
        if (other.length() == 0) {
            return NOT_POSSIBLE;
        }
        if (!normaliseInto(copy, term) || !normaliseInto(trial, other)) {
            return NONE;
        }
        return copy.hasSameTokens(trial) ? 1 : 0;
    }

    // ---- the machine with explicit substitutions

    public int machineSteps(int rule, int merging) {
        if (rule < 0 || rule >= RULES || merging < 0 || merging > 1) {
            return BAD_VALUE;
        }
        return machine.work(term, merging == 1) ? machine.applications(rule) : NONE;
    }

    public int machinePeak(int merging) {
        if (merging < 0 || merging > 1) {
            return BAD_VALUE;
        }
        return machine.work(term, merging == 1) ? machine.peak() : NONE;
    }

    // ---- scripts, observations, random reduction

    public int runScript(int n, long script) {
        if (n < 1 || n > SCRIPT_COMMANDS || script < 0L || withoutLowGroups(script, n) != 0L) {
            return BAD_VALUE;
        }
        copy.copyFrom(term);
        for (int command = 0; command < n; command++) {
            int group = (int) (withoutLowGroups(script, n - 1 - command) % 1000L);
            if (!commandSucceeds(group)) {
                return command;
            }
        }
        return NONE;
    }

    public int observe(int n, int v) {
        if (n < 0 || n > OBSERVED_STEPS || v < 1 || v > TERM_LIMIT) {
            return BAD_VALUE;
        }
        observations.add(n, v);
        return observations.count();
    }

    public int forgetAfter(int n) {
        if (n < 0 || n > OBSERVED_STEPS) {
            return BAD_VALUE;
        }
        observations.keepUpTo(n);
        return observations.count();
    }

    public int possibleStrategies() {
        int bits = 0;
        for (int strategy = 0; strategy < STRATEGIES; strategy++) {
            if (observationsHold(strategy)) {
                bits |= 1 << strategy;
            }
        }
        return bits;
    }

    public long setSeed(long seed) {
        long previous = randomSeed;
        randomSeed = seed;
        return previous;
    }

    public int randomReduction(int m) {
        if (m < 1 || m > RANDOM_STEPS) {
            return BAD_VALUE;
        }
        copy.copyFrom(term);
        int sum = 0;
        for (int i = 0; i < m; i++) {
            randomStepOnCopy();
            sum += copy.length();
        }
        return sum;
    }

    // ---- save slots

    public int save(int slot) {
        if (!isSlot(slot)) {
            return NO_SUCH_INDEX;
        }
        slotTerm(slot).copyFrom(term);
        return term.length();
    }

    public int restore(int slot) {
        if (!isSlot(slot)) {
            return NO_SUCH_INDEX;
        }
        Term saved = slotTerm(slot);
        if (saved.length() == 0) {
            return NOT_POSSIBLE;
        }
        term.copyFrom(saved);
        history.forgetAll();
        return term.length();
    }

    // ---- helpers of the calls

    private static boolean isVariable(int token) {
        return token >= 0 && token < APPLICATION;
    }

    /** How many subterms the token is followed by, without the entries of a closure. */
    private static int parts(int token) {
        switch (token) {
            case APPLICATION:
                return 2;
            case ABSTRACTION:
            case CLOSURE:
                return 1;
            default:
                return 0;
        }
    }

    private static boolean isStrategy(int strategy) {
        return strategy >= 0 && strategy < STRATEGIES;
    }

    private static boolean isSlot(int slot) {
        return slot == 0 || slot == 1;
    }

    private static boolean isPrediction(int strategy, int limit) {
        return isStrategy(strategy) && limit >= 0 && limit <= PREDICTED_STEPS;
    }

    /** The term of a slot; no term is of length 0, so that length marks an empty slot. */
    private Term slotTerm(int slot) {
        return slot == 0 ? firstSlot : secondSlot;
    }

    /** Every action ends here, after all its errors are ruled out, so a failed call leaves no trace. */
    private int actWithCopy() {
        history.remember(term);
        term.copyFrom(copy);
        return term.length();
    }

    private int performOnCopy(int strategy, int limit) {
        copy.copyFrom(term);
        return reducer.perform(copy, strategy, limit);
    }

    private boolean normaliseInto(Term target, Term source) {
        target.copyFrom(source);
        reducer.perform(target, LEFTMOST_OUTERMOST, NORMAL_FORM_STEPS);
        return Reducer.nextRedex(target, 0) == NONE;
    }

    /** Drops the lowest groups of three digits, as many as are asked for. */
    private static long withoutLowGroups(long script, int groups) {
        long rest = script;
        for (int i = 0; i < groups; i++) {
            rest /= 1000L;
        }
        return rest;
    }

    private boolean commandSucceeds(int group) {
        int second = group / 10 % 10;
        int third = group % 10;
        switch (group / 100) {
            case 1:
                return second == 0 && reducer.perform(copy, third, 1) == 1;
            case 2:
                return copy.length() == group % 100;
            case 3:
                return Reducer.countRedexes(copy) == group % 100;
            case 4:
                trial.copyFrom(copy);
                return isStrategy(second) && reducer.perform(trial, second, SCRIPT_RUN_STEPS) == third;
            case 5:
                return group == 500 && copy.wrapInAbstraction();
            default:
                return false;
        }
    }

    /** A run with a smaller limit is the beginning of a longer one, so one run tests all observations. */
    private boolean observationsHold(int strategy) {
        copy.copyFrom(term);
        int last = Math.min(observations.greatestLimit(), OBSERVED_STEPS);
        for (int limit = 0; limit <= last; limit++) {
            if (limit > 0) {
                reducer.perform(copy, strategy, 1);
            }
            if (!observations.allow(limit, copy.length())) {
                return false;
            }
        }
        return true;
    }

    private void randomStepOnCopy() {
        randomSeed = randomSeed * SEED_FACTOR + SEED_ADDEND;
        int v = (int) (randomSeed >>> 33);
        int redexes = Reducer.countRedexes(copy);
        if (redexes > 0) {
            reducer.contract(copy, Reducer.numberedRedex(copy, v % redexes));
        }
    }

    /** A row of tokens of at most 200; what is added beyond that only marks the row as too large. */
    private static final class Term {
        private final int[] tokens = new int[TERM_LIMIT];
        private int length = 0;
        private boolean tooLarge = false;

        int length() {
            return length;
        }

        boolean isTooLarge() {
            return tooLarge;
        }

        boolean has(int position) {
            return position >= 0 && position < length;
        }

        int token(int position) {
            return position >= 0 && position < length ? tokens[position] : NO_TOKEN;
        }

        void clear() {
            length = 0;
            tooLarge = false;
        }

        void add(int token) {
            if (length < TERM_LIMIT) {
                tokens[length] = token;
                length++;
            } else {
                tooLarge = true;
            }
        }

        void addRange(Term source, int start, int end) {
            if (start < 0 || start > end || end > source.length) {
                return;
            }
            int added = end - start;
            if (added > TERM_LIMIT - length) {
                tooLarge = true;
                return;
            }
            System.arraycopy(source.tokens, start, tokens, length, added);
            length += added;
        }

        void copyFrom(Term source) {
            System.arraycopy(source.tokens, 0, tokens, 0, source.length);
            length = source.length;
            tooLarge = source.tooLarge;
        }

        boolean wrapInAbstraction() {
            if (length >= TERM_LIMIT) {
                return false;
            }
            System.arraycopy(tokens, 0, tokens, 1, length);
            tokens[0] = ABSTRACTION;
            length++;
            return true;
        }

        boolean hasSameTokens(Term other) {
            if (length != other.length) {
                return false;
            }
            for (int i = 0; i < length; i++) {
                if (tokens[i] != other.tokens[i]) {
                    return false;
                }
            }
            return true;
        }
    }

    /** For each position of a term: where its subterm ends, and how many abstractions are around it. */
    private static final class Outline {
        private final int[] ends = new int[TERM_LIMIT];
        private final int[] depths = new int[TERM_LIMIT];
        private int length = 0;

        void measure(Term t) {
            length = Math.min(t.length(), TERM_LIMIT);
            measureEnds(t);
            measureDepths(t);
        }

        int endAt(int position) {
            return position >= 0 && position < length ? ends[position] : length;
        }

        int depthAt(int position) {
            return position >= 0 && position < length ? depths[position] : 0;
        }

        /** Backwards, because an end is told by the ends of the parts, which stand further right. */
        private void measureEnds(Term t) {
            for (int i = length - 1; i >= 0; i--) {
                int token = t.token(i);
                if (token == ABSTRACTION) {
                    ends[i] = endAt(i + 1);
                } else if (token == APPLICATION) {
                    ends[i] = endAt(endAt(i + 1));
                } else {
                    ends[i] = i + 1;
                }
            }
        }

        /** Forwards, because each term hands its depth on to its parts. */
        private void measureDepths(Term t) {
            setDepth(0, 0);
            for (int i = 0; i < length; i++) {
                int token = t.token(i);
                if (token == ABSTRACTION) {
                    setDepth(i + 1, depths[i] + 1);
                } else if (token == APPLICATION) {
                    setDepth(i + 1, depths[i]);
                    setDepth(endAt(i + 1), depths[i]);
                }
            }
        }

        private void setDepth(int position, int depth) {
            if (position >= 0 && position < length) {
                depths[position] = depth;
            }
        }
    }

    /** Finds and contracts redexes, and replaces free variables. */
    private static final class Reducer {
        private final Outline outline = new Outline();
        private final Outline insertedOutline = new Outline();
        private final Term result = new Term();

        static boolean isRedex(Term t, int position) {
            return t.token(position) == APPLICATION && t.token(position + 1) == ABSTRACTION;
        }

        static int countRedexes(Term t) {
            int count = 0;
            for (int i = 0; i < t.length(); i++) {
                if (isRedex(t, i)) {
                    count++;
                }
            }
            return count;
        }

        static int nextRedex(Term t, int start) {
            for (int i = start; i < t.length(); i++) {
                if (isRedex(t, i)) {
                    return i;
                }
            }
            return NONE;
        }

        static int numberedRedex(Term t, int number) {
            int passed = 0;
            for (int i = 0; i < t.length(); i++) {
                if (isRedex(t, i)) {
                    if (passed == number) {
                        return i;
                    }
                    passed++;
                }
            }
            return NONE;
        }

        static int choose(Term t, int strategy) {
            switch (strategy) {
                case LEFTMOST_OUTERMOST:
                    return nextRedex(t, 0);
                case LEFTMOST_INNERMOST:
                    return leftmostInnermost(t);
                case RIGHTMOST:
                    return lastRedex(t);
                case WEAK_HEAD:
                    return weakHead(t);
                default:
                    return NONE;
            }
        }

        /** A redex contains no other one exactly if no other one starts before the redex is complete. */
        private static int leftmostInnermost(Term t) {
            int candidate = NONE;
            int missing = 0;
            for (int i = 0; i < t.length(); i++) {
                if (isRedex(t, i)) {
                    candidate = i;
                    missing = 1;
                }
                missing += parts(t.token(i)) - 1;
                if (candidate != NONE && missing == 0) {
                    return candidate;
                }
            }
            return candidate;
        }

        private static int lastRedex(Term t) {
            for (int i = t.length() - 1; i >= 0; i--) {
                if (isRedex(t, i)) {
                    return i;
                }
            }
            return NONE;
        }

        private static int weakHead(Term t) {
            for (int i = 0; i < t.length() && t.token(i) == APPLICATION; i++) {
                if (isRedex(t, i)) {
                    return i;
                }
            }
            return NONE;
        }

        /** Performs a run on the term and tells its number of steps. */
        int perform(Term t, int strategy, int limit) {
            int steps = 0;
            while (steps < limit && contract(t, choose(t, strategy))) {
                steps++;
            }
            return steps;
        }

        /** Contracts the redex at the position; changes nothing and says false if none is there or it is too large. */
        boolean contract(Term t, int position) {
            if (!isRedex(t, position)) {
                return false;
            }
            outline.measure(t);
            int argumentStart = outline.endAt(position + 1);
            int argumentEnd = outline.endAt(argumentStart);
            result.clear();
            result.addRange(t, 0, position);
            addContracted(t, position + 2, argumentStart, argumentEnd);
            result.addRange(t, argumentEnd, t.length());
            return takeResult(t);
        }

        private void addContracted(Term t, int bodyStart, int argumentStart, int argumentEnd) {
            int outside = outline.depthAt(bodyStart);
            for (int i = bodyStart; i < argumentStart && !result.isTooLarge(); i++) {
                int token = t.token(i);
                int depth = outline.depthAt(i) - outside;
                if (!isVariable(token) || token < depth) {
                    result.add(token);
                } else if (token == depth) {
                    addShifted(t, outline, argumentStart, argumentEnd, depth);
                } else {
                    result.add(token - 1);
                }
            }
        }

        /** Replaces a free variable of the term; changes nothing and says false if that is too large. */
        boolean replaceFree(Term t, int number, Term replacement) {
            outline.measure(t);
            insertedOutline.measure(replacement);
            result.clear();
            for (int i = 0; i < t.length() && !result.isTooLarge(); i++) {
                int token = t.token(i);
                int depth = outline.depthAt(i);
                if (isVariable(token) && token - depth == number) {
                    addShifted(replacement, insertedOutline, 0, replacement.length(), depth);
                } else {
                    result.add(token);
                }
            }
            return takeResult(t);
        }

        private void addShifted(Term source, Outline sourceOutline, int start, int end, int shift) {
            int outside = sourceOutline.depthAt(start);
            for (int i = start; i < end && !result.isTooLarge(); i++) {
                int token = source.token(i);
                boolean free = isVariable(token) && token >= sourceOutline.depthAt(i) - outside;
                result.add(free ? token + shift : token);
            }
        }

        private boolean takeResult(Term t) {
            if (result.isTooLarge()) {
                return false;
            }
            t.copyFrom(result);
            return true;
        }
    }

    /** An extended term as a row of tokens; a closure's token also has a number of entries and a shift. */
    private static final class Extended {
        private final int[] tokens = new int[EXTENDED_LIMIT];
        private final int[] entries = new int[EXTENDED_LIMIT];
        private final int[] shifts = new int[EXTENDED_LIMIT];
        private int length = 0;
        private boolean tooLarge = false;

        int length() {
            return length;
        }

        boolean isTooLarge() {
            return tooLarge;
        }

        int token(int position) {
            return position >= 0 && position < length ? tokens[position] : NO_TOKEN;
        }

        int entriesAt(int position) {
            return position >= 0 && position < length ? entries[position] : 0;
        }

        int shiftAt(int position) {
            return position >= 0 && position < length ? shifts[position] : 0;
        }

        void clear() {
            length = 0;
            tooLarge = false;
        }

        void add(int token) {
            put(token, 0, 0);
        }

        void addClosure(int entryCount, int shift) {
            put(CLOSURE, entryCount, shift);
        }

        private void put(int token, int entryCount, int shift) {
            if (length < EXTENDED_LIMIT) {
                tokens[length] = token;
                entries[length] = entryCount;
                shifts[length] = shift;
                length++;
            } else {
                tooLarge = true;
            }
        }

        void addRange(Extended source, int start, int end) {
            if (start < 0 || start > end || end > source.length) {
                return;
            }
            int added = end - start;
            if (added > EXTENDED_LIMIT - length) {
                tooLarge = true;
                return;
            }
            System.arraycopy(source.tokens, start, tokens, length, added);
            System.arraycopy(source.entries, start, entries, length, added);
            System.arraycopy(source.shifts, start, shifts, length, added);
            length += added;
        }

        /** The position behind a number of subterms that stand one after another. */
        int behind(int start, int subterms) {
            int missing = subterms;
            int position = start;
            while (missing > 0 && position < length) {
                missing += parts(token(position)) + entriesAt(position) - 1;
                position++;
            }
            return position;
        }
    }

    /** The machine with explicit substitutions: each step writes the next extended term from the present one. */
    private static final class Machine {
        private Extended present = new Extended();
        private Extended next = new Extended();
        private final int[] applied = new int[RULES];
        private int peak = 0;

        int peak() {
            return peak;
        }

        int applications(int rule) {
            return rule >= 0 && rule < RULES ? applied[rule] : 0;
        }

        /** Says true if the machine stops, and false if it gives up. */
        boolean work(Term t, boolean merging) {
            start(t);
            for (int steps = 0; steps < MACHINE_STEP_LIMIT; steps++) {
                int position = firstPlace(merging);
                if (position == NONE) {
                    return true;
                }
                rewrite(position, ruleAt(position, merging));
                if (present.isTooLarge()) {
                    return false;
                }
                peak = Math.max(peak, present.length());
            }
            return firstPlace(merging) == NONE;
        }

        private void start(Term t) {
            present.clear();
            for (int i = 0; i < t.length(); i++) {
                present.add(t.token(i));
            }
            peak = present.length();
            for (int rule = 0; rule < RULES; rule++) {
                applied[rule] = 0;
            }
        }

        private int firstPlace(boolean merging) {
            for (int i = 0; i < present.length(); i++) {
                if (ruleAt(i, merging) != NONE) {
                    return i;
                }
            }
            return NONE;
        }

        private int ruleAt(int position, boolean merging) {
            int token = present.token(position);
            int part = present.token(position + 1);
            if (token == APPLICATION) {
                return part == ABSTRACTION ? BETA : NONE;
            }
            if (token != CLOSURE) {
                return NONE;
            }
            switch (part) {
                case APPLICATION:
                    return APPLY;
                case ABSTRACTION:
                    return ABSTRACT;
                case CLOSURE:
                    return merging ? MERGE : NONE;
                default:
                    return LOOKUP;
            }
        }

        private void rewrite(int position, int rule) {
            next.clear();
            next.addRange(present, 0, position);
            switch (rule) {
                case BETA:
                    writeBeta(position);
                    break;
                case APPLY:
                    writeApply(position);
                    break;
                case ABSTRACT:
                    writeAbstract(position);
                    break;
                case LOOKUP:
                    writeLookup(position);
                    break;
                case MERGE:
                    writeMerge(position);
                    break;
                default:
                    break;
            }
            next.addRange(present, present.behind(position, 1), present.length());
            Extended used = present;
            present = next;
            next = used;
            if (rule >= 0 && rule < RULES) {
                applied[rule]++;
            }
        }

        private void writeBeta(int position) {
            next.addClosure(1, 0);
            next.addRange(present, position + 2, present.behind(position, 1));
        }

        private void writeApply(int position) {
            int count = present.entriesAt(position);
            int shift = present.shiftAt(position);
            int argument = present.behind(position + 2, 1);
            int firstEntry = present.behind(argument, 1);
            int end = present.behind(firstEntry, count);
            next.add(APPLICATION);
            next.addClosure(count, shift);
            next.addRange(present, position + 2, argument);
            next.addRange(present, firstEntry, end);
            next.addClosure(count, shift);
            next.addRange(present, argument, end);
        }

        private void writeAbstract(int position) {
            int count = present.entriesAt(position);
            int entry = present.behind(position + 2, 1);
            next.add(ABSTRACTION);
            next.addClosure(count + 1, present.shiftAt(position) + 1);
            next.addRange(present, position + 2, entry);
            next.add(0);
            for (int i = 0; i < count && !next.isTooLarge(); i++) {
                int end = present.behind(entry, 1);
                next.addClosure(0, 1);
                next.addRange(present, entry, end);
                entry = end;
            }
        }

        private void writeLookup(int position) {
            int count = present.entriesAt(position);
            int index = present.token(position + 1);
            if (index < count) {
                int entry = present.behind(position + 2, index);
                next.addRange(present, entry, present.behind(entry, 1));
            } else {
                next.add(index - count + present.shiftAt(position));
            }
        }

        private void writeMerge(int position) {
            int outerCount = present.entriesAt(position);
            int outerShift = present.shiftAt(position);
            int innerCount = present.entriesAt(position + 1);
            int innerShift = present.shiftAt(position + 1);
            int entry = present.behind(position + 2, 1);
            int outerStart = present.behind(entry, innerCount);
            int outerEnd = present.behind(outerStart, outerCount);
            int dropped = Math.min(innerShift, outerCount);
            next.addClosure(innerCount + outerCount - dropped, innerShift - dropped + outerShift);
            next.addRange(present, position + 2, entry);
            for (int i = 0; i < innerCount && !next.isTooLarge(); i++) {
                int end = present.behind(entry, 1);
                next.addClosure(outerCount, outerShift);
                next.addRange(present, entry, end);
                next.addRange(present, outerStart, outerEnd);
                entry = end;
            }
            next.addRange(present, present.behind(outerStart, dropped), outerEnd);
        }
    }

    /** The terms before the last actions, in a ring, so that the oldest one makes room by itself. */
    private static final class History {
        private final int[][] rows = new int[REMEMBERED_LIMIT][TERM_LIMIT];
        private final int[] lengths = new int[REMEMBERED_LIMIT];
        private int count = 0;
        private int place = 0;

        int count() {
            return count;
        }

        void forgetAll() {
            count = 0;
        }

        void remember(Term t) {
            if (place < 0 || place >= REMEMBERED_LIMIT) {
                place = 0;
            }
            int length = Math.min(t.length(), TERM_LIMIT);
            for (int i = 0; i < length; i++) {
                rows[place][i] = t.token(i);
            }
            lengths[place] = length;
            place = (place + 1) % REMEMBERED_LIMIT;
            count = Math.min(count + 1, REMEMBERED_LIMIT);
        }

        boolean takeBack(Term t) {
            if (count <= 0) {
                return false;
            }
            place = place > 0 && place < REMEMBERED_LIMIT ? place - 1 : REMEMBERED_LIMIT - 1;
            count--;
            t.clear();
            int length = Math.min(lengths[place], TERM_LIMIT);
            for (int i = 0; i < length; i++) {
                t.add(rows[place][i]);
            }
            return true;
        }
    }

    /** The text buffer. */
    private static final class TermText {
        private final int[] codes = new int[TEXT_LIMIT];
        private int length = 0;

        int length() {
            return length;
        }

        boolean put(int code) {
            if (length >= TEXT_LIMIT) {
                return false;
            }
            codes[length] = code;
            length++;
            return true;
        }

        void clear() {
            length = 0;
        }

        /** The error position, or NONE: any start is sound as long as each character fills a missing subterm. */
        int firstError() {
            int missing = 1;
            for (int i = 0; i < length; i++) {
                int token = tokenOf(codes[i]);
                if (missing == 0 || token == NO_TOKEN) {
                    return i;
                }
                missing += parts(token) - 1;
            }
            return missing == 0 ? NONE : length;
        }

        void writeTo(Term t) {
            t.clear();
            for (int i = 0; i < length; i++) {
                t.add(tokenOf(codes[i]));
            }
        }

        private static int tokenOf(int code) {
            if (code == 'L') {
                return ABSTRACTION;
            }
            if (code == '@') {
                return APPLICATION;
            }
            return code >= '0' && code <= '9' ? code - '0' : NO_TOKEN;
        }
    }

    /** The stored observations, the oldest one first. */
    private static final class Observations {
        private final int[] limits = new int[OBSERVATION_LIMIT];
        private final int[] values = new int[OBSERVATION_LIMIT];
        private int count = 0;

        int count() {
            return count;
        }

        void add(int limit, int value) {
            if (count >= OBSERVATION_LIMIT) {
                dropOldest();
            }
            if (count >= 0 && count < OBSERVATION_LIMIT) {
                limits[count] = limit;
                values[count] = value;
                count++;
            }
        }

        private void dropOldest() {
            for (int i = 1; i < OBSERVATION_LIMIT; i++) {
                limits[i - 1] = limits[i];
                values[i - 1] = values[i];
            }
            count = OBSERVATION_LIMIT - 1;
        }

        void keepUpTo(int limit) {
            int kept = 0;
            for (int i = 0; i < count; i++) {
                if (limits[i] <= limit) {
                    limits[kept] = limits[i];
                    values[kept] = values[i];
                    kept++;
                }
            }
            count = kept;
        }

        int greatestLimit() {
            int greatest = 0;
            for (int i = 0; i < count; i++) {
                greatest = Math.max(greatest, limits[i]);
            }
            return greatest;
        }

        boolean allow(int limit, int size) {
            for (int i = 0; i < count; i++) {
                if (limits[i] == limit && values[i] != size) {
                    return false;
                }
            }
            return true;
        }
    }
}
