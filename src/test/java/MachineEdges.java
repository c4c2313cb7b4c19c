/** The machine with explicit substitutions (promises 23 and 24): each sentence that names a boundary case. */
public final class MachineEdges {
    /** 597 steps with merging off, with a peak of 217. */
    private static final String LONG_WITHOUT_MERGING = "@LL@1@1@10@@@L0LL@1@10L@00@@LL@1@1@10L0LL0";
    /** 597 steps with merging on, with a peak of 269. */
    private static final String LONG_WITH_MERGING = "@@LL@1@1@10@@LL@1@1@10L@00@LL0LLL@2@@210LL@1@10";

    private static void dueCounts(String text, int merging, int[] counts, int peak) {
        SubstitutionMachine x = Check.with(text);
        for (int rule = 0; rule < 5; rule++) {
            String what = "machineSteps(" + rule + ", " + merging + ") of " + text;
            Check.due(what, x.machineSteps(rule, merging), counts[rule]);
        }
        Check.due("machinePeak(" + merging + ") of " + text, x.machinePeak(merging), peak);
    }

    private static void dueCounts(String text, int[] counts, int peak) {
        dueCounts(text, 0, counts, peak);
        dueCounts(text, 1, counts, peak);
    }

    private static void dueNone(String text, int merging) {
        SubstitutionMachine x = Check.with(text);
        for (int rule = 0; rule < 5; rule++) {
            String what = "machineSteps(" + rule + ", " + merging + ") of " + text;
            Check.due(what, x.machineSteps(rule, merging), Check.NONE);
        }
        Check.due("machinePeak(" + merging + ") of " + text, x.machinePeak(merging), Check.NONE);
    }

    private static void nothingToDo() {
        Check.says("Description", "The machine stops if no rule can be applied anywhere.");
        dueCounts("3", new int[] {0, 0, 0, 0, 0}, 1);
        dueCounts("L@0L@01", new int[] {0, 0, 0, 0, 0}, 7);
        dueCounts("@0L0", new int[] {0, 0, 0, 0, 0}, 4);
    }

    private static void betas() {
        Check.says("Description", "BETA (0): an application of an abstraction with body b to an argument a becomes the"
            + " closure with body b, the single entry a and shift 0.");
        dueCounts("@L05", new int[] {1, 0, 0, 1, 0}, 4);
        dueCounts("L@L05", new int[] {1, 0, 0, 1, 0}, 5);
        dueCounts("@0@L0@L05", new int[] {2, 0, 0, 2, 0}, 9);
        dueCounts(Check.CHAIN, new int[] {19, 0, 0, 19, 0}, 58);
    }

    private static void applies() {
        Check.says("Description", "both closures have the entries and the shift of the old one.");
        dueCounts("@L@005", new int[] {1, 1, 0, 2, 0}, 7);
        dueCounts("@L@00@12", new int[] {1, 1, 0, 2, 0}, 11);
        dueCounts("@L@@0005", new int[] {1, 2, 0, 3, 0}, 11);
    }

    private static void abstracts() {
        Check.says("Description", "whose entries are the variable with index 0 and then, for each old entry e in order, the"
            + " closure with body e, no entries and shift 1.");
        dueCounts("@LL0@12", new int[] {1, 0, 1, 1, 0}, 8);
        dueCounts("@LLL0@12", new int[] {1, 0, 2, 1, 0}, 12);
        dueCounts("@LLLL0@12", new int[] {1, 0, 3, 1, 0}, 17);
    }

    private static void lookups() {
        Check.says("Description", "variable i is replaced by entry i if i is less than n (the first entry is entry 0), and"
            + " by the variable i - n + k otherwise.");
        dueCounts("@L05", new int[] {1, 0, 0, 1, 0}, 4);
        dueCounts("@L15", new int[] {1, 0, 0, 1, 0}, 4);
        dueCounts("@LL05", new int[] {1, 0, 1, 1, 0}, 6);
        dueCounts("@LL15", new int[] {1, 0, 1, 2, 0}, 6);
        dueCounts("@LL25", new int[] {1, 0, 1, 1, 0}, 6);
        dueCounts("@LLL35", new int[] {1, 0, 2, 1, 0}, 10);
        dueCounts("@LLL15", new int[] {1, 0, 2, 2, 0}, 10);
        dueCounts("@LLL25", 0, new int[] {1, 0, 2, 3, 0}, 10);
        dueCounts("@LLL25", 1, new int[] {1, 0, 2, 2, 1}, 10);
    }

    /** A redex behind the closure or in an outer one would be counted if a variable became an entry or another one. */
    private static void lookupsBesideARedex() {
        Check.says("Description", "LOOKUP (3): a closure whose body is a variable becomes what it stands for: the entry or"
            + " the variable.");
        dueCounts("@@L15@L07", new int[] {2, 0, 0, 2, 0}, 9);
        dueCounts("@@LL05@L07", 0, new int[] {3, 0, 1, 3, 0}, 11);
        dueCounts("@@LL05@L07", 1, new int[] {3, 0, 1, 3, 1}, 15);
        dueCounts("@@LL15@L07", 0, new int[] {2, 0, 1, 3, 0}, 11);
        dueCounts("@@LL15@L07", 1, new int[] {2, 0, 1, 2, 2}, 15);
        dueCounts("@@LL25@L07", 0, new int[] {2, 0, 1, 2, 0}, 11);
        dueCounts("@@LL25@L07", 1, new int[] {2, 0, 1, 1, 1}, 15);
    }

    private static void noEntries() {
        Check.says("Description", "A closure has a body (an extended term), a list of n entries (extended terms, n is 0 or"
            + " greater) and a shift k (0 or greater).");
        dueCounts("@LL1L0", new int[] {1, 0, 2, 2, 0}, 7);
        dueCounts("@LL1@23", new int[] {1, 1, 1, 3, 0}, 8);
    }

    private static void entriesInOrder() {
        Check.says("Description", "In prefix order, a closure is one token followed by its body and then by its entries in"
            + " order. So its size is 1 plus the sizes of the body and of the entries.");
        dueCounts("@LL1@2@34", new int[] {1, 2, 1, 4, 0}, 10);
        dueCounts("@LL@01@2@34", new int[] {1, 3, 1, 5, 0}, 20);
    }

    private static void closureInClosure() {
        Check.says("Description", "At a closure whose body is a closure, no rule can be applied if merging is off; then a"
            + " rule can be applied inside its body.");
        dueCounts("@L@L102", 0, new int[] {2, 1, 1, 3, 0}, 10);
        dueCounts("@@LL15" + Check.OMEGA, 0, new int[] {2, 0, 1, 3, 0}, 16);
    }

    private static void mergedClosures() {
        Check.says("Description", "MERGE (4), only if merging is on");
        dueCounts("@L@L102", 1, new int[] {2, 1, 1, 2, 2}, 13);
        dueCounts("@@LL15" + Check.OMEGA, 1, new int[] {2, 0, 1, 2, 2}, 25);
    }

    private static void mergedShifts() {
        Check.says("Description", "Its shift is j if k is less than m, and otherwise k - m + j.");
        dueCounts("@LL@1@10LL1", 1, new int[] {3, 2, 5, 8, 8}, 21);
        dueCounts("@LL@1@1@1@10LL1", 1, new int[] {5, 4, 9, 14, 21}, 31);
    }

    private static void smallestPosition() {
        Check.says("Description", "In each step the machine applies a rule at the smallest position at which a rule can be"
            + " applied.");
        dueCounts("@L1" + Check.OMEGA, new int[] {1, 0, 0, 1, 0}, 12);
        dueCounts("@L1@L1" + Check.OMEGA, new int[] {1, 0, 0, 1, 0}, 15);
        dueCounts("@@L0L1" + Check.OMEGA, 0, new int[] {2, 0, 0, 2, 0}, 15);
        dueNone("@0" + Check.OMEGA, 0);
        dueNone("@0" + Check.OMEGA, 1);
    }

    /** A variable is applied to the text's term and to another one, so that all steps of both are done. */
    private static void sixHundredSteps(String text, int merging, int[] counts, int peak) {
        int[] two = {counts[0] + 1, counts[1], counts[2], counts[3] + 1, counts[4]};
        int[] three = {counts[0] + 1, counts[1], counts[2] + 1, counts[3] + 1, counts[4]};
        dueCounts(text, merging, counts, peak);
        dueCounts("@@0" + text + "@L05", merging, two, peak + 3 + 4);
        dueCounts("@@0" + text + "@LL05", merging, three, peak + 3 + 5);
        dueNone("@@0" + text + "@L0@L05", merging);
        dueNone("@@0" + text + "@LLL05", merging);
    }

    private static void stepLimit() {
        Check.says("Description", "It gives up if it has performed 600 steps and a rule can still be applied");
        sixHundredSteps(LONG_WITHOUT_MERGING, 0, new int[] {61, 141, 130, 265, 0}, 217);
        sixHundredSteps(LONG_WITH_MERGING, 1, new int[] {77, 75, 76, 227, 142}, 269);
        dueNone(Check.OMEGA, 0);
        dueNone(Check.OMEGA, 1);
    }

    private static void tokenLimit() {
        Check.says("Description", "or if an extended term would have more than 300 tokens");
        String[] texts = {"@LL@1@10@L@00LL@10", "@@LL@10LL@1@10@L0LL@1@10"};
        for (int merging = 0; merging < 2; merging++) {
            SubstitutionMachine x = Check.with(texts[merging]);
            Check.due("machinePeak(" + merging + ")", x.machinePeak(merging), 299);
            int lookups = x.machineSteps(3, merging);
            x.abstractTerm();
            Check.due("machinePeak(" + merging + ") of 300 tokens", x.machinePeak(merging), 300);
            Check.due("machineSteps(3, " + merging + ") of 300 tokens", x.machineSteps(3, merging), lookups);
            x.abstractTerm();
            Check.due("machinePeak(" + merging + ") of 301 tokens", x.machinePeak(merging), Check.NONE);
            for (int rule = 0; rule < 5; rule++) {
                Check.due("machineSteps(" + rule + ", " + merging + ")", x.machineSteps(rule, merging), Check.NONE);
            }
            x.undo();
            Check.due("machinePeak(" + merging + ") after undo()", x.machinePeak(merging), 300);
        }
    }

    /** The text's term is applied to one of the given size, and abstractions are put around it. */
    private static SubstitutionMachine appliedInside(String text, int size, int abstractions) {
        SubstitutionMachine x = Check.applied(text, size);
        Check.abstractTimes(x, abstractions);
        return x;
    }

    /** The greatest extended term is the one after the second APPLY: 2 + 3 * (2 + size of the argument). */
    private static void tokenLimitOfApply() {
        Check.says("Description", "or if an extended term would have more than 300 tokens");
        for (int merging = 0; merging < 2; merging++) {
            for (int more = 90; more <= 110; more++) {
                SubstitutionMachine x = appliedInside("L@@900", 64, more);
                int peak = more + 2 + 3 * (2 + 64);
                Check.due("machinePeak(" + merging + ")", x.machinePeak(merging), peak <= 300 ? peak : Check.NONE);
                Check.due("machineSteps(3, " + merging + ")", x.machineSteps(3, merging), peak <= 300 ? 3 : Check.NONE);
            }
        }
    }

    /** The greatest extended term is the one after the last MERGE: each of its three entries has the argument. */
    private static void tokenLimitOfMerge() {
        Check.says("Description", "or if an extended term would have more than 300 tokens");
        for (int more = 95; more <= 115; more++) {
            SubstitutionMachine x = appliedInside("@@LLL900", 60, more);
            int peak = more + 15 + 3 * 60;
            Check.due("machinePeak(1)", x.machinePeak(1), peak <= 300 ? peak : Check.NONE);
            Check.due("machineSteps(4, 1)", x.machineSteps(4, 1), peak <= 300 ? 2 : Check.NONE);
        }
        // With 101 and 89, two of the three entries make 300 tokens full.
        for (int more = 80; more <= 90; more++) {
            Check.due("machinePeak(1), far too large", appliedInside("@@LLL900", 101, more).machinePeak(1), Check.NONE);
        }
    }

    private static void firstTermCounts() {
        Check.says("Description", "The peak of the machine is the greatest size of all extended terms from the first one"
            + " (the term itself) to the last one.");
        SubstitutionMachine x = Check.with("@L05");
        Check.due("machinePeak(0), the first is the greatest", x.machinePeak(0), 4);
        x.step(0);
        Check.due("machinePeak(0), the first is the last", x.machinePeak(0), 1);
        Check.due("machinePeak(0) of 58 tokens", Check.with(Check.CHAIN).machinePeak(0), 58);
        Check.due("machinePeak(1) of 58 tokens", Check.with(Check.CHAIN).machinePeak(1), 58);
        x = Check.grown("@L05", 200);
        Check.due("machinePeak(0) of 200 tokens", x.machinePeak(0), 200);
        Check.due("machineSteps(0, 0) of 200 tokens", x.machineSteps(0, 0), 1);
        x = Check.grown("@LL15", 200);
        Check.due("machinePeak(1) above 200 tokens", x.machinePeak(1), 201);
    }

    private static void rules() {
        Check.says("Promise 23", "Returns how often the machine applies the rule until it stops; BAD_VALUE if rule or"
            + " merging is out of range; NONE if the machine gives up.");
        int[] noRules = {-1, 5, Integer.MIN_VALUE, Integer.MAX_VALUE};
        int[] noMergings = {-1, 2, Integer.MIN_VALUE, Integer.MAX_VALUE};
        for (String text : new String[] {"@L05", Check.OMEGA}) {
            SubstitutionMachine x = Check.with(text);
            for (int rule : noRules) {
                Check.due("machineSteps(" + rule + ", 0)", x.machineSteps(rule, 0), Check.BAD_VALUE);
                Check.due("machineSteps(" + rule + ", 1)", x.machineSteps(rule, 1), Check.BAD_VALUE);
                Check.due("machineSteps(" + rule + ", 2)", x.machineSteps(rule, 2), Check.BAD_VALUE);
            }
            for (int merging : noMergings) {
                for (int rule = 0; rule < 5; rule++) {
                    String what = "machineSteps(" + rule + ", " + merging + ")";
                    Check.due(what, x.machineSteps(rule, merging), Check.BAD_VALUE);
                }
            }
        }
    }

    private static void mergings() {
        Check.says("Promise 24",
            "Returns the peak of the machine; BAD_VALUE if merging is out of range; NONE if the machine gives up.");
        int[] noMergings = {-1, 2, Integer.MIN_VALUE, Integer.MAX_VALUE};
        for (String text : new String[] {"@L05", Check.OMEGA}) {
            SubstitutionMachine x = Check.with(text);
            for (int merging : noMergings) {
                Check.due("machinePeak(" + merging + ")", x.machinePeak(merging), Check.BAD_VALUE);
            }
        }
        Check.due("machinePeak(0)", Check.with("@L05").machinePeak(0), 4);
        Check.due("machinePeak(1)", Check.with("@L05").machinePeak(1), 4);
        Check.due("machinePeak(0) of omega", Check.with(Check.OMEGA).machinePeak(0), Check.NONE);
        Check.due("machinePeak(1) of omega", Check.with(Check.OMEGA).machinePeak(1), Check.NONE);
    }

    private static void onACopy(String promise) {
        Check.says(promise, "Lets the machine work on a copy of the term.");
        SubstitutionMachine x = Check.with("@L@L102");
        for (int i = 0; i < 2; i++) {
            Check.due("machineSteps(3, 0)", x.machineSteps(3, 0), 3);
            Check.due("machineSteps(3, 1)", x.machineSteps(3, 1), 2);
            Check.due("machinePeak(0)", x.machinePeak(0), 10);
            Check.due("machinePeak(1)", x.machinePeak(1), 13);
        }
        Check.dueTerm("after the machine", x, "@L@L102");
        Check.due("undo() after the machine", x.undo(), Check.NOT_POSSIBLE);
        x.clearText();
        Check.type(x, Check.OMEGA);
        x.load();
        Check.due("machinePeak(1) of omega", x.machinePeak(1), Check.NONE);
        Check.dueTerm("after giving up", x, Check.OMEGA);
        x.clearText();
        Check.type(x, "@L05");
        x.load();
        Check.due("machinePeak(1) after giving up", x.machinePeak(1), 4);
        Check.due("machineSteps(0, 1) after giving up", x.machineSteps(0, 1), 1);
        Check.due("machineSteps(4, 1) after giving up", x.machineSteps(4, 1), 0);
    }

    public static void main(String[] args) {
        nothingToDo();
        betas();
        applies();
        abstracts();
        lookups();
        lookupsBesideARedex();
        noEntries();
        entriesInOrder();
        closureInClosure();
        mergedClosures();
        mergedShifts();
        smallestPosition();
        stepLimit();
        tokenLimit();
        tokenLimitOfApply();
        tokenLimitOfMerge();
        firstTermCounts();
        rules();
        mergings();
        onACopy("Promise 23");
        onACopy("Promise 24");
        Check.finish();
    }
}
