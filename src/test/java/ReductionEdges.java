/** Steps, runs, predictions and normal forms (promises 12, 13, 18 to 22): each sentence that names a boundary case. */
public final class ReductionEdges {
    /** 200 steps of LEFTMOST_OUTERMOST lead to the variable 0. */
    private static final String TWO_HUNDRED_STEPS = "@L0@@@@@LL@10LLL@2@@210LL@1@1@1@10LL@1@10L00";

    private static String stepped(String text) {
        SubstitutionMachine x = Check.with(text);
        x.step(0);
        return Check.show(x);
    }

    private static void shifting() {
        Check.says("Description",
            "Shifting a term by k adds k to the index of each of its variables that is free in that term.");
        Check.dueText("shifted by 0", stepped("@L0L@01"), "L@01");
        Check.dueText("shifted by 1", stepped("@LL1L@01"), "LL@02");
        Check.dueText("shifted by 2, the last bound and the first free one", stepped("@LLL2LL@@012"), "LLLL@@014");
        Check.dueText("free behind an abstraction", stepped("@LL1@L00"), "L@L01");
        Check.dueText("bound outside of the argument", stepped("L@LL1@01"), "LL@12");
    }

    private static void lessThanDepth() {
        Check.says("Description", "A variable with index less than d stays.");
        Check.dueText("index 0 in 1", stepped("@LL05"), "L0");
        Check.dueText("index 0 and 1 in 2", stepped("@LLL@015"), "LL@01");
    }

    private static void equalToDepth() {
        Check.says("Description", "A variable with index d is replaced by the argument, shifted by d.");
        Check.dueText("index 0 in none", stepped("@L05"), "5");
        Check.dueText("index 1 in 1", stepped("@LL15"), "L6");
        Check.dueText("index 2 in 2", stepped("@LLL25"), "LL7");
        Check.dueText("at two depths", stepped("@L@0@L1L05"), "@5@L6L0");
        Check.dueText("in none, behind an abstraction", stepped("@L@L005"), "@L05");
    }

    private static void greaterThanDepth() {
        Check.says("Description", "A variable with an index greater than d gets the index that is smaller by 1.");
        Check.dueText("index 1 in none", stepped("@L15"), "0");
        Check.dueText("index 9 in none", stepped("@L95"), "8");
        Check.dueText("index 2 in 1", stepped("@LL25"), "L1");
        Check.dueText("all kinds in 2", stepped("@LLL@@@01235"), "LL@@@0172");
        Check.dueText("outside of the redex", stepped("@@L193"), "@03");
        Check.dueText("bound outside of the redex", stepped("LL@L@@0123"), "LL@@301");
    }

    private static void tooLarge() {
        Check.says("Description", "A step is too large if its result would have more than 200 tokens.");
        for (int s = 0; s < 4; s++) {
            SubstitutionMachine x = Check.justNotTooLarge();
            Check.due("chosenRedex(" + s + ")", x.chosenRedex(s), 0);
            Check.due("step(" + s + ") to 200 tokens", x.step(s), 200);
            Check.due("size()", x.size(), 200);
            x = Check.justTooLarge();
            Check.due("chosenRedex(" + s + ")", x.chosenRedex(s), 0);
            Check.due("step(" + s + ") to 201 tokens", x.step(s), Check.FULL);
            Check.due("size()", x.size(), 107);
            Check.due("undo() of the action before", x.undo(), 0);
        }
    }

    /** The tokens before and behind the redex count, too. */
    private static void tooLargeBesideTheRedex() {
        Check.says("Description", "A step is too large if its result would have more than 200 tokens.");
        String swelling = "@L@00@0" + "L".repeat(52) + "4";
        Check.due("step(0) to 200 tokens, abstractions before", Check.grown(swelling, 149).step(0), 200);
        Check.due("step(0) to 201 tokens, abstractions before", Check.grown(swelling, 150).step(0), Check.FULL);
        Check.due("step(0) to 200 tokens, an argument behind", beforeArgument(97).step(0), 200);
        Check.due("step(0) to 201 tokens, an argument behind", beforeArgument(98).step(0), Check.FULL);
    }

    /** A redex of 56 tokens, 102 when it is contracted, is applied to a term of the given size. */
    private static SubstitutionMachine beforeArgument(int size) {
        SubstitutionMachine x = Check.with("@L@0L1" + "L".repeat(49) + "0");
        x.save(0);
        Check.abstractTimes(x, size - 56);
        x.save(1);
        x.restore(0);
        x.applyTo(1);
        return x;
    }

    private static void stepErrors() {
        Check.says("Promise 12", "Returns the new size; BAD_VALUE if strategy is out of range; NOT_POSSIBLE if the"
            + " strategy chooses no redex; FULL if the step is too large.");
        SubstitutionMachine x = Check.with("L@L00");
        for (int s : Check.NO_STRATEGIES) Check.due("step(" + s + ")", x.step(s), Check.BAD_VALUE);
        Check.due("step(3) without a head redex", x.step(3), Check.NOT_POSSIBLE);
        Check.due("step(1)", x.step(1), 2);
        for (int s = 0; s < 4; s++) Check.due("step(" + s + ") without a redex", x.step(s), Check.NOT_POSSIBLE);
        for (int s : Check.NO_STRATEGIES) Check.due("step(" + s + ") without a redex", x.step(s), Check.BAD_VALUE);
        Check.dueTerm("after the steps that failed", x, "L0");
        Check.due("undo()", x.undo(), 0);
        x = Check.justTooLarge();
        for (int s : Check.NO_STRATEGIES) Check.due("step(" + s + ") too large", x.step(s), Check.BAD_VALUE);
    }

    private static void runUntilNoRedex() {
        Check.says("Description", "performs steps of the strategy, one after another, until the strategy chooses no"
            + " redex, or the next step would be too large, or the number of steps is equal to the limit.");
        for (int s = 0; s < 4; s++) {
            SubstitutionMachine x = Check.with("@L0@L0@L01");
            Check.due("stepsOfRun(" + s + ", 2) of 3", x.stepsOfRun(s, 2), 2);
            Check.due("stepsOfRun(" + s + ", 3) of 3", x.stepsOfRun(s, 3), 3);
            Check.due("stepsOfRun(" + s + ", 4) of 3", x.stepsOfRun(s, 4), 3);
            Check.due("sizeAfterRun(" + s + ", 2)", x.sizeAfterRun(s, 2), 4);
            Check.due("sizeAfterRun(" + s + ", 4)", x.sizeAfterRun(s, 4), 1);
            Check.due("run(" + s + ", 2)", x.run(s, 2), 2);
            Check.dueTerm("after run(" + s + ", 2)", x, "@L01");
            Check.due("run(" + s + ", 2)", x.run(s, 2), 1);
        }
        SubstitutionMachine x = Check.with("@@L0L@L00@L01");
        Check.due("stepsOfRun(3, 200), a head redex that a step makes", x.stepsOfRun(3, 200), 4);
        x = Check.with("@@L01@L01");
        Check.due("stepsOfRun(3, 200), redexes that are left", x.stepsOfRun(3, 200), 1);
        Check.due("sizeAfterRun(3, 200), redexes that are left", x.sizeAfterRun(3, 200), 6);
    }

    private static void runUntilTooLarge() {
        Check.says("Description", "or the next step would be too large");
        SubstitutionMachine x = Check.with(Check.GROWING);
        Check.due("stepsOfRun(0, 25)", x.stepsOfRun(0, 25), 25);
        Check.due("stepsOfRun(0, 26)", x.stepsOfRun(0, 26), 26);
        Check.due("stepsOfRun(0, 27)", x.stepsOfRun(0, 27), 26);
        Check.due("stepsOfRun(0, 200)", x.stepsOfRun(0, 200), 26);
        Check.due("sizeAfterRun(0, 25)", x.sizeAfterRun(0, 25), 188);
        Check.due("sizeAfterRun(0, 200)", x.sizeAfterRun(0, 200), 195);
        Check.due("run(0, 50)", x.run(0, 50), 26);
        Check.due("size()", x.size(), 195);
        Check.due("run(0, 50) when the first step is too large", x.run(0, 50), 0);
        Check.due("size()", x.size(), 195);
        Check.due("undo() of a run of no steps", x.undo(), 1);
        Check.due("undo()", x.undo(), 0);
        Check.due("size()", x.size(), 13);
        for (int s = 0; s < 4; s++) {
            x = Check.justNotTooLarge();
            Check.due("stepsOfRun(" + s + ", 200) to 200 tokens", x.stepsOfRun(s, 200), 1);
            Check.due("sizeAfterRun(" + s + ", 200) to 200 tokens", x.sizeAfterRun(s, 200), 200);
            Check.due("run(" + s + ", 50) to 200 tokens", x.run(s, 50), 1);
            x = Check.justTooLarge();
            Check.due("stepsOfRun(" + s + ", 200) to 201 tokens", x.stepsOfRun(s, 200), 0);
            Check.due("sizeAfterRun(" + s + ", 200) to 201 tokens", x.sizeAfterRun(s, 200), 107);
            Check.due("run(" + s + ", 50) to 201 tokens", x.run(s, 50), 0);
        }
    }

    private static void runUntilLimit() {
        Check.says("Description", "or the number of steps is equal to the limit");
        int[] steps = {57, 57, 57, 19};
        for (int s = 0; s < 4; s++) {
            SubstitutionMachine x = Check.threeChains();
            int all = steps[s];
            Check.due("stepsOfRun(" + s + ", one less)", x.stepsOfRun(s, all - 1), all - 1);
            Check.due("stepsOfRun(" + s + ", all)", x.stepsOfRun(s, all), all);
            Check.due("stepsOfRun(" + s + ", one more)", x.stepsOfRun(s, all + 1), all);
            Check.due("sizeAfterRun(" + s + ", one less)", x.sizeAfterRun(s, all - 1), 176 - 3 * (all - 1));
            Check.due("sizeAfterRun(" + s + ", one more)", x.sizeAfterRun(s, all + 1), 176 - 3 * all);
            Check.due("run(" + s + ", 50)", x.run(s, 50), Math.min(50, all));
            Check.due("run(" + s + ", 50) again", x.run(s, 50), Math.max(0, all - 50));
        }
    }

    private static void runLimits() {
        Check.says("Promise 13", "`limit`: 1 to 50");
        for (int s = 0; s < 4; s++) {
            SubstitutionMachine x = Check.with(Check.OMEGA);
            Check.due("run(" + s + ", 1)", x.run(s, 1), 1);
            Check.due("run(" + s + ", 50)", x.run(s, 50), 50);
            int[] wrong = {0, 51, -1, Integer.MIN_VALUE, Integer.MAX_VALUE};
            for (int n : wrong) Check.due("run(" + s + ", " + n + ")", x.run(s, n), Check.BAD_VALUE);
            Check.due("undo()", x.undo(), 1);
        }
        SubstitutionMachine x = Check.with(Check.OMEGA);
        for (int s : Check.NO_STRATEGIES) {
            Check.due("run(" + s + ", 1)", x.run(s, 1), Check.BAD_VALUE);
            Check.due("run(" + s + ", 51)", x.run(s, 51), Check.BAD_VALUE);
        }
        Check.due("undo()", x.undo(), Check.NOT_POSSIBLE);
    }

    private static void runOfNoSteps() {
        Check.says("Promise 13", "A run of 0 steps is an action, too.");
        SubstitutionMachine x = Check.with("L@L00");
        Check.due("run(3, 50)", x.run(3, 50), 0);
        Check.due("run(0, 50)", x.run(0, 50), 1);
        Check.due("run(0, 1)", x.run(0, 1), 0);
        Check.due("undo()", x.undo(), 2);
        Check.dueTerm("after the first undo()", x, "L0");
        Check.due("undo()", x.undo(), 1);
        Check.dueTerm("after the second undo()", x, "L@L00");
        Check.due("undo()", x.undo(), 0);
        Check.dueTerm("after the third undo()", x, "L@L00");
    }

    private static void predictedLimits(String promise, boolean steps) {
        Check.says(promise, "`limit`: 0 to 200");
        SubstitutionMachine x = Check.with(Check.OMEGA);
        for (int s = 0; s < 4; s++) {
            Check.due("limit 0", predict(x, steps, s, 0), steps ? 0 : 9);
            Check.due("limit 200", predict(x, steps, s, 200), steps ? 200 : 9);
            int[] wrong = {-1, 201, Integer.MIN_VALUE, Integer.MAX_VALUE};
            for (int n : wrong) Check.due("limit " + n, predict(x, steps, s, n), Check.BAD_VALUE);
        }
        for (int s : Check.NO_STRATEGIES) {
            Check.due("strategy " + s, predict(x, steps, s, 0), Check.BAD_VALUE);
            Check.due("strategy " + s + ", limit 201", predict(x, steps, s, 201), Check.BAD_VALUE);
        }
    }

    private static int predict(SubstitutionMachine x, boolean steps, int strategy, int limit) {
        return steps ? x.stepsOfRun(strategy, limit) : x.sizeAfterRun(strategy, limit);
    }

    private static void predictionsChangeNothing() {
        Check.says("Promise 18", "predictions; they change nothing");
        SubstitutionMachine x = Check.with("@L@001");
        x.save(0);
        x.abstractTerm();
        x.stepsOfRun(0, 200);
        x.sizeAfterRun(1, 200);
        x.normalSize();
        x.normalTokenAt(0);
        x.isEquivalent(0);
        x.machineSteps(0, 1);
        x.machinePeak(0);
        Check.dueTerm("after predictions", x, "L@L@001");
        Check.due("undo()", x.undo(), 0);
        Check.dueTerm("after undo()", x, "@L@001");
        x.step(0);
        x.isEquivalent(0);
        Check.due("restore(0)", x.restore(0), 6);
        Check.dueTerm("after restore(0)", x, "@L@001");
    }

    private static void normalForm() {
        Check.says("Description", "what a run of LEFTMOST_OUTERMOST with the limit 200 leads to, if it ends because there"
            + " is no redex. Otherwise the term counts as having no normal form here.");
        Check.due("no redex", Check.with("L@0L0").normalSize(), 5);
        Check.due("an argument that is dropped", Check.with("@@LL15" + Check.OMEGA).normalSize(), 1);
        Check.due("a limit that is reached", Check.with(Check.OMEGA).normalSize(), Check.NONE);
        Check.due("a redex that does not end", Check.with("L@0" + Check.OMEGA).normalSize(), Check.NONE);
        Check.due("a step that is too large", Check.with(Check.GROWING).normalSize(), Check.NONE);
        Check.due("200 tokens", Check.justNotTooLarge().normalSize(), 200);
        Check.due("201 tokens", Check.justTooLarge().normalSize(), Check.NONE);
        SubstitutionMachine x = Check.justTooLarge();
        x.save(0);
        x.undo();
        Check.abstractTimes(x, 1);
        Check.due("an argument that is too large for a step", x.applyTo(0), 1 + 9 + 107);
        Check.due("its normal form, without that step", x.normalSize(), 8);
    }

    private static void twoHundredSteps() {
        Check.says("Description",
            "(So a term whose 200th step leads to a term without a redex has a normal form.)");
        SubstitutionMachine x = Check.with(TWO_HUNDRED_STEPS);
        Check.due("sizeAfterRun(0, 199), a redex of the least size", x.sizeAfterRun(0, 199), 4);
        Check.due("sizeAfterRun(0, 200)", x.sizeAfterRun(0, 200), 1);
        Check.due("stepsOfRun(0, 200)", x.stepsOfRun(0, 200), 200);
        Check.due("normalSize() after 200 steps", x.normalSize(), 1);
        Check.due("normalTokenAt(0) after 200 steps", x.normalTokenAt(0), 0);
        for (int i = 0; i < 4; i++) Check.due("run(0, 50)", x.run(0, 50), 50);
        Check.due("redexCount() after 200 steps", x.redexCount(), 0);
        x = Check.with("@L0" + TWO_HUNDRED_STEPS);
        Check.due("stepsOfRun(0, 200) of 201", x.stepsOfRun(0, 200), 200);
        Check.due("normalSize() after 201 steps", x.normalSize(), Check.NONE);
        Check.due("normalTokenAt(0) after 201 steps", x.normalTokenAt(0), Check.NONE);
        x.step(0);
        Check.due("normalSize() after the first of 201 steps", x.normalSize(), 1);
        x.step(0);
        Check.due("normalSize() of 199 steps", x.normalSize(), 1);
    }

    private static void normalTokens() {
        Check.says("Promise 21", "NONE if the term has no normal form; NO_SUCH_INDEX if position is negative or not less"
            + " than the size of the normal form.");
        SubstitutionMachine x = Check.with("@L@0@00@12");
        int[] tokens = {1000, 1000, 1, 2, 1000, 1000, 1, 2, 1000, 1, 2};
        for (int i = 0; i < 11; i++) Check.due("normalTokenAt(" + i + ")", x.normalTokenAt(i), tokens[i]);
        Check.due("tokenAt(10), behind the term", x.tokenAt(10), Check.NO_SUCH_INDEX);
        int[] wrong = {11, -1, Integer.MIN_VALUE, Integer.MAX_VALUE};
        for (int p : wrong) Check.due("normalTokenAt(" + p + ")", x.normalTokenAt(p), Check.NO_SUCH_INDEX);
        x = Check.with("@L01");
        Check.due("normalTokenAt(1), in the term alone", x.normalTokenAt(1), Check.NO_SUCH_INDEX);
        x = Check.with(Check.OMEGA);
        int[] any = {0, 9, -1, Integer.MIN_VALUE, Integer.MAX_VALUE};
        for (int p : any) Check.due("normalTokenAt(" + p + ") of none", x.normalTokenAt(p), Check.NONE);
        x = Check.justNotTooLarge();
        Check.due("normalTokenAt(199)", x.normalTokenAt(199), 1);
        Check.due("normalTokenAt(200)", x.normalTokenAt(200), Check.NO_SUCH_INDEX);
    }

    private static void normalSizes() {
        Check.says("Promise 20", "Returns the size of the normal form of the term; NONE if it has none.");
        Check.due("a variable", Check.with("7").normalSize(), 1);
        Check.due("57 steps", Check.threeChains().normalSize(), 5);
        Check.due("none", Check.with(Check.OMEGA).normalSize(), Check.NONE);
    }

    private static void equivalent() {
        Check.says("Promise 22", "Returns 1 if they have the same tokens, 0 if not");
        SubstitutionMachine x = Check.with("@L@003");
        x.save(0);
        Check.due("the same term", x.isEquivalent(0), 1);
        x.step(0);
        x.save(1);
        Check.due("a term and its normal form", x.isEquivalent(0), 1);
        x.restore(0);
        Check.due("a term and its normal form in a slot", x.isEquivalent(1), 1);
        x.abstractTerm();
        Check.due("another size", x.isEquivalent(0), 0);
        x = Check.with("L@03");
        x.save(0);
        x.abstractTerm();
        x.applyTo(0);
        Check.due("another last token", x.isEquivalent(0), 0);
        x = Check.with("@L01");
        x.save(0);
        x.abstractTerm();
        x.applyTo(0);
        Check.due("normalTokenAt(0), the only one", x.normalTokenAt(0), 0);
        Check.due("another first token", x.isEquivalent(0), 0);
        x = Check.with("@0L0");
        x.save(0);
        x.applyTo(0);
        Check.due("another size, the term larger", x.isEquivalent(0), 0);
        x.save(1);
        x.restore(0);
        Check.due("another size, the slot's larger", x.isEquivalent(1), 0);
    }

    private static void equivalenceErrors() {
        Check.says("Promise 22", "NO_SUCH_INDEX if slot is not 0 or 1; NOT_POSSIBLE if the slot is empty; NONE if one of"
            + " the two terms has no normal form.");
        SubstitutionMachine x = Check.with("L0");
        x.save(1);
        for (int slot : Check.NO_SLOTS) Check.due("isEquivalent(" + slot + ")", x.isEquivalent(slot), Check.NO_SUCH_INDEX);
        Check.due("isEquivalent(0), empty", x.isEquivalent(0), Check.NOT_POSSIBLE);
        Check.due("isEquivalent(1)", x.isEquivalent(1), 1);
        x = Check.with(Check.OMEGA);
        for (int slot : Check.NO_SLOTS) Check.due("isEquivalent(" + slot + ")", x.isEquivalent(slot), Check.NO_SUCH_INDEX);
        Check.due("isEquivalent(0), empty", x.isEquivalent(0), Check.NOT_POSSIBLE);
        Check.due("isEquivalent(1), empty", x.isEquivalent(1), Check.NOT_POSSIBLE);
        x.save(0);
        Check.due("isEquivalent(0), both without one", x.isEquivalent(0), Check.NONE);
        x = Check.with("@L0" + TWO_HUNDRED_STEPS);
        x.save(0);
        x.step(0);
        Check.due("isEquivalent(0), the slot's without one", x.isEquivalent(0), Check.NONE);
        x.save(1);
        Check.due("isEquivalent(1), both with one", x.isEquivalent(1), 1);
        x.undo();
        Check.due("isEquivalent(1), the term without one", x.isEquivalent(1), Check.NONE);
    }

    public static void main(String[] args) {
        shifting();
        lessThanDepth();
        equalToDepth();
        greaterThanDepth();
        tooLarge();
        tooLargeBesideTheRedex();
        stepErrors();
        runUntilNoRedex();
        runUntilTooLarge();
        runUntilLimit();
        runLimits();
        runOfNoSteps();
        predictedLimits("Promise 18", true);
        predictedLimits("Promise 19", false);
        predictionsChangeNothing();
        normalForm();
        twoHundredSteps();
        normalTokens();
        normalSizes();
        equivalent();
        equivalenceErrors();
        Check.finish();
    }
}
