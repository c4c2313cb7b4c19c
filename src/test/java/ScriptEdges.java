/** Scripts, observations and random reductions (promises 25 to 30): each sentence that names a boundary case. */
public final class ScriptEdges {
    private static final long FACTOR = 6364136223846793005L;
    private static final long ADDEND = 1442695040888963407L;
    /** Sizes of its runs: 0 and 3 have 15, 12, 1, 1, ..; 1 has 15, 12, 12, ..; 2 has 15, 15, .. */
    private static final String DIFFERENT_RUNS = "@@LL15" + Check.OMEGA;

    private static void dueScript(SubstitutionMachine x, int n, long script, int want) {
        Check.due("runScript(" + n + ", " + script + ")", x.runScript(n, script), want);
    }

    // ---- scripts

    private static void oneToFourCommands() {
        Check.says("Description", "A script has 1 to 4 commands.");
        SubstitutionMachine x = new SubstitutionMachine();
        dueScript(x, 1, 201L, Check.NONE);
        dueScript(x, 2, 201300L, Check.NONE);
        dueScript(x, 3, 201300400L, Check.NONE);
        dueScript(x, 4, 201300400500L, Check.NONE);
        int[] wrong = {0, 5, -1, Integer.MIN_VALUE, Integer.MAX_VALUE};
        for (int n : wrong) {
            dueScript(x, n, 201L, Check.BAD_VALUE);
            dueScript(x, n, 0L, Check.BAD_VALUE);
            dueScript(x, n, -1L, Check.BAD_VALUE);
        }
    }

    private static void digits() {
        Check.says("Promise 25", "`script`: the commands, a number of at most 3 * n digits (0 or more)");
        SubstitutionMachine x = new SubstitutionMachine();
        long limit = 1L;
        for (int n = 1; n <= 4; n++) {
            limit *= 1000L;
            dueScript(x, n, 0L, 0);
            dueScript(x, n, 1L, 0);
            dueScript(x, n, limit - 1L, 0);
            dueScript(x, n, limit, Check.BAD_VALUE);
            dueScript(x, n, limit + 201L, Check.BAD_VALUE);
            dueScript(x, n, Long.MAX_VALUE, Check.BAD_VALUE);
            dueScript(x, n, -1L, Check.BAD_VALUE);
            dueScript(x, n, -201L, Check.BAD_VALUE);
            dueScript(x, n, Long.MIN_VALUE, Check.BAD_VALUE);
        }
        dueScript(x, 1, 201L + (1L << 32), Check.BAD_VALUE);
        dueScript(x, 4, 300300300201L, Check.NONE);
    }

    private static void highestGroupFirst() {
        Check.says("Description", "the first command is the highest group of the number.");
        SubstitutionMachine x = new SubstitutionMachine();
        dueScript(x, 2, 201301L, 1);
        dueScript(x, 2, 301201L, 0);
        dueScript(x, 2, 201L, 0);
        dueScript(x, 3, 201201L, 0);
        dueScript(x, 2, 500202L, Check.NONE);
        dueScript(x, 2, 202500L, 0);
    }

    private static void firstThatFails() {
        Check.says("Description", "The result of a script is the index, from 0, of the first command that fails, or NONE if"
            + " all succeed.");
        SubstitutionMachine x = new SubstitutionMachine();
        dueScript(x, 4, 999300300300L, 0);
        dueScript(x, 4, 300999300300L, 1);
        dueScript(x, 4, 300300999300L, 2);
        dueScript(x, 4, 300300300999L, 3);
        dueScript(x, 4, 300300300300L, Check.NONE);
        dueScript(x, 4, 300999300999L, 1);
        dueScript(x, 4, 0L, 0);
    }

    private static void scriptSteps() {
        Check.says("Description", "1 0 s: a step of strategy s, 0 to 3; fails if s is not a strategy, if the strategy"
            + " chooses no redex, or if the step is too large.");
        SubstitutionMachine x = Check.with("@L@00@L01");
        dueScript(x, 2, 100209L, Check.NONE);
        dueScript(x, 2, 101206L, Check.NONE);
        dueScript(x, 2, 102206L, Check.NONE);
        dueScript(x, 2, 103209L, Check.NONE);
        dueScript(x, 4, 100302102301L, Check.NONE);
        for (int s = 4; s <= 9; s++) dueScript(x, 1, 100 + s, 0);
        for (int d = 1; d <= 9; d++) dueScript(x, 1, 100 + 10 * d, 0);
        x = Check.with("L@L00");
        for (int s = 0; s < 3; s++) dueScript(x, 2, 100100 + 1001 * s, 1);
        dueScript(x, 1, 103L, 0);
        x = Check.justNotTooLarge();
        for (int s = 0; s < 4; s++) dueScript(x, 1, 100 + s, Check.NONE);
        x = Check.justTooLarge();
        for (int s = 0; s < 4; s++) dueScript(x, 1, 100 + s, 0);
    }

    private static void scriptSizes() {
        Check.says("Description", "2 x y: succeeds if the size of the copy is exactly xy.");
        SubstitutionMachine x = Check.with("L".repeat(9) + "0");
        dueScript(x, 1, 209L, 0);
        dueScript(x, 1, 210L, Check.NONE);
        dueScript(x, 1, 211L, 0);
        dueScript(x, 1, 201L, 0);
        x = Check.grown("0", 99);
        dueScript(x, 1, 298L, 0);
        dueScript(x, 1, 299L, Check.NONE);
        dueScript(x, 2, 500299L, 1);
        dueScript(x, 2, 500200L, 1);
        dueScript(x, 2, 500210L, 1);
        x = Check.grown("0", 200);
        dueScript(x, 1, 200L, 0);
        dueScript(x, 1, 220L, 0);
    }

    private static void scriptRedexes() {
        Check.says("Description", "3 x y: succeeds if the number of redexes of the copy is exactly xy.");
        SubstitutionMachine x = new SubstitutionMachine();
        dueScript(x, 1, 300L, Check.NONE);
        dueScript(x, 1, 301L, 0);
        x = Check.threeChains();
        dueScript(x, 1, 356L, 0);
        dueScript(x, 1, 357L, Check.NONE);
        dueScript(x, 1, 358L, 0);
        dueScript(x, 2, 100356L, Check.NONE);
        x = Check.with("@L0".repeat(10) + "0");
        dueScript(x, 1, 310L, Check.NONE);
        dueScript(x, 1, 301L, 0);
        dueScript(x, 1, 300L, 0);
    }

    private static void scriptRuns() {
        Check.says("Description", "4 s n: succeeds if s is a strategy and a run of strategy s with the limit 9 on the copy"
            + " would perform exactly n steps; it does not change the copy.");
        for (int steps = 0; steps <= 11; steps++) {
            SubstitutionMachine x = Check.with("@L0".repeat(steps) + "0");
            int most = Math.min(steps, 9);
            for (int s = 0; s < 4; s++) {
                for (int n = 0; n <= 9; n++) dueScript(x, 1, 400 + 10 * s + n, n == most ? Check.NONE : 0);
            }
            for (int s = 4; s <= 9; s++) dueScript(x, 1, 400 + 10 * s + most, 0);
            for (int s = 4; s <= 9; s++) dueScript(x, 1, 400 + 10 * s, 0);
        }
        SubstitutionMachine x = Check.with("@L0".repeat(12) + "0");
        dueScript(x, 4, 409237312409L, Check.NONE);
        x = Check.with("@L0@L0@L00");
        for (int s = 0; s < 4; s++) dueScript(x, 2, 100402L + 10 * s, Check.NONE);
        dueScript(x, 4, 100100401430L, 3);
        dueScript(x, 4, 500100402430L, Check.NONE);
        x = Check.justTooLarge();
        for (int s = 0; s < 4; s++) dueScript(x, 1, 400 + 10 * s, Check.NONE);
        x = Check.justNotTooLarge();
        for (int s = 0; s < 4; s++) dueScript(x, 1, 401 + 10 * s, Check.NONE);
        x = Check.with("L@L00");
        dueScript(x, 1, 430L, Check.NONE);
        dueScript(x, 1, 431L, 0);
    }

    private static void scriptAbstractions() {
        Check.says("Description", "5 0 0: makes the copy an abstraction of itself; fails if the copy has 200 tokens.");
        SubstitutionMachine x = Check.grown("0", 199);
        dueScript(x, 1, 500L, Check.NONE);
        dueScript(x, 2, 500500L, 1);
        dueScript(x, 4, 500500500500L, 1);
        x.abstractTerm();
        dueScript(x, 1, 500L, 0);
        x = Check.with("@L00");
        dueScript(x, 3, 500205103L, 2);
        dueScript(x, 3, 500100202L, Check.NONE);
        dueScript(x, 4, 500500500207L, Check.NONE);
    }

    private static void allGroups() {
        Check.says("Description", "Any other group fails.");
        dueGroups("0", "201 300 400 410 420 430 500");
        dueGroups("@L@L00@L01", "100 101 102 103 210 303 403 413 423 433 500");
        dueGroups("L@L00", "100 101 102 205 301 401 411 421 430 500");
    }

    private static void dueGroups(String text, String fine) {
        SubstitutionMachine x = Check.with(text);
        for (int group = 0; group <= 999; group++) {
            if (group % 400 == 0) x = Check.with(text);
            boolean succeeds = (" " + fine + " ").contains(" " + group + " ");
            dueScript(x, 1, group, succeeds ? Check.NONE : 0);
        }
    }

    private static void scriptOnACopy() {
        Check.says("Description", "The commands run on a copy of the term, one after another.");
        SubstitutionMachine x = Check.with("@L@00@L01");
        x.abstractTerm();
        dueScript(x, 4, 500500100100L, Check.NONE);
        dueScript(x, 4, 500500100999L, 3);
        dueScript(x, 1, 10000L, Check.BAD_VALUE);
        Check.dueTerm("after scripts", x, "L@L@00@L01");
        Check.due("undo() after scripts", x.undo(), 0);
        Check.dueTerm("after undo()", x, "@L@00@L01");
    }

    private static void scriptErrors() {
        Check.says("Promise 25", "Returns the result of the script; BAD_VALUE if n is out of range, or if script is"
            + " negative or has more than 3 * n digits.");
        SubstitutionMachine x = new SubstitutionMachine();
        dueScript(x, 0, 201L, Check.BAD_VALUE);
        dueScript(x, 5, 201L, Check.BAD_VALUE);
        dueScript(x, 1, -1L, Check.BAD_VALUE);
        dueScript(x, 1, 1000L, Check.BAD_VALUE);
        dueScript(x, 2, 1000L, 0);
        dueScript(x, 3, 999999999L, 0);
        dueScript(x, 3, 1000000000L, Check.BAD_VALUE);
        dueScript(x, 5, 1000000000000000L, Check.BAD_VALUE);
    }

    // ---- observations

    private static void observationRanges() {
        Check.says("Promise 26", "Returns how many observations are stored now, 1 to 6; BAD_VALUE if n or v is out of"
            + " range.");
        SubstitutionMachine x = new SubstitutionMachine();
        int[] wrongLimits = {-1, 51, Integer.MIN_VALUE, Integer.MAX_VALUE};
        int[] wrongSizes = {0, 201, -1, Integer.MIN_VALUE, Integer.MAX_VALUE};
        for (int n : wrongLimits) {
            Check.due("observe(" + n + ", 1)", x.observe(n, 1), Check.BAD_VALUE);
            Check.due("observe(" + n + ", 200)", x.observe(n, 200), Check.BAD_VALUE);
            Check.due("observe(" + n + ", 0)", x.observe(n, 0), Check.BAD_VALUE);
        }
        for (int v : wrongSizes) {
            Check.due("observe(0, " + v + ")", x.observe(0, v), Check.BAD_VALUE);
            Check.due("observe(50, " + v + ")", x.observe(50, v), Check.BAD_VALUE);
        }
        Check.due("observe(0, 1)", x.observe(0, 1), 1);
        Check.due("observe(50, 1)", x.observe(50, 1), 2);
        Check.due("possibleStrategies()", x.possibleStrategies(), 15);
        Check.due("observe(0, 200)", x.observe(0, 200), 3);
        Check.due("observe(50, 200)", x.observe(50, 200), 4);
        Check.due("observe(0, 1) again", x.observe(0, 1), 5);
        Check.due("observe(0, 1) again", x.observe(0, 1), 6);
        Check.due("observe(0, 1), the seventh", x.observe(0, 1), 6);
        Check.due("observe(51, 1) with six stored", x.observe(51, 1), Check.BAD_VALUE);
    }

    private static void sixObservations() {
        Check.says("Description", "The object stores the last 6 observations; a seventh one replaces the oldest.");
        for (int place = 0; place < 6; place++) {
            SubstitutionMachine x = new SubstitutionMachine();
            for (int i = 0; i < 6; i++) Check.due("observe", x.observe(0, i == place ? 2 : 1), i + 1);
            for (int more = 0; more <= place; more++) {
                Check.due("possibleStrategies() after " + more + " more", x.possibleStrategies(), 0);
                Check.due("observe(0, 1)", x.observe(0, 1), 6);
            }
            Check.due("possibleStrategies() when it is replaced", x.possibleStrategies(), 15);
            Check.due("forgetAfter(50)", x.forgetAfter(50), 6);
        }
        SubstitutionMachine x = new SubstitutionMachine();
        int[] limits = {40, 0, 50, 20, 30, 10, 5};
        for (int n : limits) x.observe(n, 1);
        int[][] left = {{50, 6}, {49, 5}, {40, 5}, {30, 5}, {29, 4}, {19, 3}, {9, 2}, {4, 1}};
        for (int[] pair : left) Check.due("forgetAfter(" + pair[0] + ")", x.forgetAfter(pair[0]), pair[1]);
    }

    private static void forgetRanges() {
        Check.says("Promise 27", "Returns how many observations are left; BAD_VALUE if n is out of range.");
        SubstitutionMachine x = new SubstitutionMachine();
        int[] wrong = {-1, 51, Integer.MIN_VALUE, Integer.MAX_VALUE};
        Check.due("forgetAfter(0) of nothing", x.forgetAfter(0), 0);
        Check.due("forgetAfter(50) of nothing", x.forgetAfter(50), 0);
        for (int n : wrong) Check.due("forgetAfter(" + n + ")", x.forgetAfter(n), Check.BAD_VALUE);
        x.observe(0, 1);
        x.observe(50, 1);
        for (int n : wrong) Check.due("forgetAfter(" + n + ")", x.forgetAfter(n), Check.BAD_VALUE);
        Check.due("forgetAfter(50)", x.forgetAfter(50), 2);
        Check.due("forgetAfter(49)", x.forgetAfter(49), 1);
        Check.due("forgetAfter(0)", x.forgetAfter(0), 1);
    }

    private static void forgetGreater() {
        Check.says("Promise 27", "Removes the observations whose limit n is greater than a number; the others keep their"
            + " order.");
        SubstitutionMachine x = new SubstitutionMachine();
        int[] limits = {7, 9, 8, 0, 50, 1};
        for (int n : limits) x.observe(n, 1);
        int[][] left = {{50, 6}, {49, 5}, {9, 5}, {8, 4}, {7, 3}, {6, 2}, {1, 2}, {0, 1}};
        for (int[] pair : left) Check.due("forgetAfter(" + pair[0] + ")", x.forgetAfter(pair[0]), pair[1]);
        Check.due("observe(3, 1)", x.observe(3, 1), 2);
        for (int place = 0; place < 5; place++) dueOrder(place);
    }

    /** Five observations stay, of which one is wrong; new ones replace them in their order. */
    private static void dueOrder(int place) {
        SubstitutionMachine x = new SubstitutionMachine();
        x.observe(30, 1);
        for (int i = 0; i < 5; i++) x.observe(20, i == place ? 2 : 1);
        Check.due("forgetAfter(29)", x.forgetAfter(29), 5);
        Check.due("observe(0, 1), the sixth", x.observe(0, 1), 6);
        for (int more = 0; more <= place; more++) {
            Check.due("possibleStrategies() after " + more + " more", x.possibleStrategies(), 0);
            x.observe(0, 1);
        }
        Check.due("possibleStrategies() when it is replaced", x.possibleStrategies(), 15);
    }

    private static void possible() {
        Check.says("Description", "A strategy is possible if all stored observations hold for it, computed from the term at"
            + " the time of the question.");
        SubstitutionMachine x = Check.with(DIFFERENT_RUNS);
        Check.due("no observation", x.possibleStrategies(), 15);
        x.observe(0, 15);
        Check.due("a limit of 0", x.possibleStrategies(), 15);
        x.observe(1, 12);
        Check.due("after one step", x.possibleStrategies(), 11);
        x.observe(2, 1);
        Check.due("after two steps", x.possibleStrategies(), 9);
        x.observe(50, 1);
        Check.due("after the end of the run", x.possibleStrategies(), 9);
        x.step(0);
        Check.due("from another term", x.possibleStrategies(), 0);
        x.undo();
        Check.due("from the same term again", x.possibleStrategies(), 9);
        x.observe(2, 12);
        Check.due("two that exclude one another", x.possibleStrategies(), 0);
    }

    private static void observedRuns() {
        Check.says("Description", "a run of that strategy with the limit n leads to a term of size v.");
        int[][] sizes = {{50, 26, 7}, {50, 119, 8}, {49, 29, 7}, {20, 116, 7}, {19, 119, 15}, {18, 122, 15}, {0, 176, 15}};
        for (int[] o : sizes) {
            SubstitutionMachine x = Check.threeChains();
            x.observe(o[0], o[1]);
            Check.due("observe(" + o[0] + ", " + o[1] + ")", x.possibleStrategies(), o[2]);
        }
        SubstitutionMachine x = Check.justTooLarge();
        x.observe(1, 107);
        x.observe(50, 107);
        Check.due("a step that is too large", x.possibleStrategies(), 15);
        x = Check.justNotTooLarge();
        x.observe(1, 200);
        x.observe(50, 200);
        Check.due("200 tokens", x.possibleStrategies(), 15);
        x = Check.with(Check.GROWING);
        x.observe(26, 195);
        x.observe(27, 195);
        x.observe(25, 188);
        Check.due("a later step that is too large", x.possibleStrategies(), 15);
    }

    private static void bitSet() {
        Check.says("Promise 28", "bit s, 0 to 3, is set if strategy s is possible.");
        SubstitutionMachine x = Check.with(DIFFERENT_RUNS);
        x.observe(2, 15);
        Check.due("strategy 2 alone", x.possibleStrategies(), 4);
        x = Check.with(DIFFERENT_RUNS);
        x.observe(2, 12);
        Check.due("strategy 1 alone", x.possibleStrategies(), 2);
        x = Check.with("@0@L01");
        x.observe(1, 6);
        Check.due("strategy 3 alone", x.possibleStrategies(), 8);
        x = Check.with("@0@L01");
        x.observe(1, 3);
        Check.due("all but strategy 3", x.possibleStrategies(), 7);
        Check.dueTerm("after possibleStrategies()", x, "@0@L01");
        Check.due("undo() after possibleStrategies()", x.undo(), Check.NOT_POSSIBLE);
    }

    // ---- random reduction

    private static void seedStarts() {
        Check.says("Description", "The object has a random seed, a long that starts at 0.");
        SubstitutionMachine x = new SubstitutionMachine();
        Check.due("setSeed(5)", x.setSeed(5), 0);
        x = new SubstitutionMachine();
        x.randomReduction(1);
        Check.due("setSeed(0) after one random step", x.setSeed(0), ADDEND);
    }

    private static void seeds() {
        Check.says("Promise 29", "Replaces the random seed.");
        SubstitutionMachine x = new SubstitutionMachine();
        long[] seeds = {Long.MIN_VALUE, Long.MAX_VALUE, -1, 1L << 32, 0};
        long before = 0;
        for (long seed : seeds) {
            Check.due("setSeed(" + seed + ")", x.setSeed(seed), before);
            before = seed;
        }
    }

    private static void overflow() {
        Check.says("Description", "seed * 6364136223846793005L + 1442695040888963407L (with long overflow)");
        long[] seeds = {0, 1, 2, -1, Long.MIN_VALUE, Long.MAX_VALUE, 1L << 62, -(1L << 33)};
        for (long seed : seeds) {
            SubstitutionMachine x = new SubstitutionMachine();
            x.setSeed(seed);
            long due = seed;
            for (int m = 1; m <= 30; m++) {
                Check.due("randomReduction(1)", x.randomReduction(1), 1);
                due = due * FACTOR + ADDEND;
                Check.due("the seed after " + m + " steps from " + seed, x.setSeed(due), due);
            }
            x.setSeed(seed);
            Check.due("randomReduction(30)", x.randomReduction(30), 30);
            Check.due("the seed after 30 steps at once", x.setSeed(0), due);
        }
    }

    private static void chosenByChance() {
        Check.says("Description", "the step contracts the redex with the number v % r, where the redexes are numbered 0, 1,"
            + " 2, ... by growing position");
        SubstitutionMachine x = Check.with("@@@0@L01@L@00@12@L9@12");
        int[] sizes = {19, 21, 17};
        int[] seen = new int[3];
        for (int i = 0; i < 120; i++) {
            long seed = i * 987654321987654321L;
            long next = seed * FACTOR + ADDEND;
            int number = (int) (next >>> 33) % 3;
            x.setSeed(seed);
            Check.due("randomReduction(1) with the seed " + seed, x.randomReduction(1), sizes[number]);
            seen[number] += next < 0 ? 1 : 0;
        }
        for (int number = 0; number < 3; number++) {
            Check.due("redex " + number + " was chosen with a seed below 0", seen[number] > 0 ? 1 : 0, 1);
        }
    }

    private static void staysAsItIs() {
        Check.says("Description", "if the result would have more than 200 tokens, or if there are no redexes, the term"
            + " stays as it is.");
        SubstitutionMachine x = Check.justTooLarge();
        Check.due("randomReduction(30), too large", x.randomReduction(30), 30 * 107);
        Check.due("the seed after 30 steps", x.setSeed(0) == 0 ? 1 : 0, 0);
        x = Check.justNotTooLarge();
        Check.due("randomReduction(1) to 200 tokens", x.randomReduction(1), 200);
        Check.due("randomReduction(30) to 200 tokens", x.randomReduction(30), 6000);
        x = Check.with("@0L0");
        Check.due("randomReduction(1), no redex", x.randomReduction(1), 4);
        Check.due("the seed after a step without a redex", x.setSeed(0), ADDEND);
        x = Check.with(Check.GROWING);
        int sum = 0;
        for (int i = 1; i <= 30; i++) sum += 13 + 7 * Math.min(i, 26);
        Check.due("randomReduction(30), too large after 26 steps", x.randomReduction(30), sum);
    }

    private static void sumOfSizes() {
        Check.says("Description",
            "its result is the sum of the sizes after each step. It changes only the seed of the object.");
        SubstitutionMachine x = Check.with("@L0@L0@L01");
        x.save(0);
        x.observe(0, 10);
        x.abstractTerm();
        Check.due("randomReduction(1)", x.randomReduction(1), 8);
        Check.due("randomReduction(2)", x.randomReduction(2), 8 + 5);
        Check.due("randomReduction(30)", x.randomReduction(30), 8 + 5 + 28 * 2);
        Check.dueTerm("after random reductions", x, "L@L0@L0@L01");
        Check.due("undo()", x.undo(), 0);
        Check.due("possibleStrategies()", x.possibleStrategies(), 15);
        Check.due("restore(0)", x.restore(0), 10);
        Check.due("restore(1)", x.restore(1), Check.NOT_POSSIBLE);
        Check.due("clearText()", x.clearText(), 10);
    }

    private static void numbersOfSteps() {
        Check.says("Promise 30", "Returns the result of the random reduction; BAD_VALUE if m is out of range (the seed does"
            + " not change then).");
        SubstitutionMachine x = new SubstitutionMachine();
        x.setSeed(-7);
        int[] wrong = {0, 31, -1, Integer.MIN_VALUE, Integer.MAX_VALUE};
        for (int m : wrong) {
            Check.due("randomReduction(" + m + ")", x.randomReduction(m), Check.BAD_VALUE);
            Check.due("the seed after randomReduction(" + m + ")", x.setSeed(-7), -7);
        }
        Check.due("randomReduction(1)", x.randomReduction(1), 1);
        Check.due("randomReduction(30)", x.randomReduction(30), 30);
    }

    public static void main(String[] args) {
        oneToFourCommands();
        digits();
        highestGroupFirst();
        firstThatFails();
        scriptSteps();
        scriptSizes();
        scriptRedexes();
        scriptRuns();
        scriptAbstractions();
        allGroups();
        scriptOnACopy();
        scriptErrors();
        observationRanges();
        sixObservations();
        forgetRanges();
        forgetGreater();
        possible();
        observedRuns();
        bitSet();
        seedStarts();
        seeds();
        overflow();
        chosenByChance();
        staysAsItIs();
        sumOfSizes();
        numbersOfSteps();
        Check.finish();
    }
}
