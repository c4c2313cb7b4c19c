/** Terms, redexes and strategies (promises 1 and 6 to 11): each sentence that names a boundary case. */
public final class ReadingEdges {
    private static final int[] NO_POSITIONS = {-1, Integer.MIN_VALUE, Integer.MAX_VALUE};

    private static void newObject() {
        Check.says("Description", "A new object has the term that is the single variable with index 0.");
        SubstitutionMachine x = new SubstitutionMachine();
        Check.due("size()", x.size(), 1);
        Check.due("tokenAt(0)", x.tokenAt(0), 0);
        Check.due("tokenAt(1)", x.tokenAt(1), Check.NO_SUCH_INDEX);
        Check.due("nameAt(0)", x.nameAt(0), 'A');
        Check.due("freeVariables()", x.freeVariables(), 1);
        Check.due("redexCount()", x.redexCount(), 0);
        Check.due("normalSize()", x.normalSize(), 1);
        Check.due("machinePeak(1)", x.machinePeak(1), 1);
    }

    private static void newObjectIsEmpty() {
        Check.says("Promise 1", "Creates the variable with index 0.");
        SubstitutionMachine other = Check.with("L0");
        other.save(0);
        other.save(1);
        other.abstractTerm();
        other.observe(0, 1);
        other.setSeed(4);
        SubstitutionMachine x = new SubstitutionMachine();
        Check.dueTerm("of a second object", x, "0");
        Check.due("clearText()", x.clearText(), 0);
        Check.due("undo()", x.undo(), Check.NOT_POSSIBLE);
        Check.due("restore(0)", x.restore(0), Check.NOT_POSSIBLE);
        Check.due("restore(1)", x.restore(1), Check.NOT_POSSIBLE);
        Check.due("forgetAfter(50)", x.forgetAfter(50), 0);
        Check.due("setSeed(1)", x.setSeed(1), 0);
        x.abstractTerm();
        Check.dueTerm("of the first object", other, "LL0");
    }

    private static void boundOrFree() {
        Check.says("Description", "A variable with index i that stands inside d abstractions (of the whole term) is"
            + " bound if i is less than d, and otherwise it is the free variable number i - d.");
        SubstitutionMachine x = Check.with("LLL@@@0234");
        Check.due("the name of index 0 in 3", x.nameAt(6), 'c');
        Check.due("the name of index 2 in 3", x.nameAt(7), 'a');
        Check.due("the name of index 3 in 3", x.nameAt(8), 'A');
        Check.due("the name of index 4 in 3", x.nameAt(9), 'B');
        Check.due("freeVariables()", x.freeVariables(), 3);
        Check.due("index 0 in none", Check.with("0").nameAt(0), 'A');
        Check.due("index 9 in none", Check.with("9").nameAt(0), 'J');
        x = Check.with("@L00");
        Check.due("index 0 in the function", x.nameAt(2), 'a');
        Check.due("index 0 in the argument", x.nameAt(3), 'A');
    }

    private static void boundByWhich() {
        Check.says("Description", "A bound variable with index i belongs to the abstraction that is the (i + 1)-th"
            + " one around it, counted from inside.");
        SubstitutionMachine x = Check.with("LL@L@@0120");
        Check.due("index 0 of 3", x.nameAt(6), 'c');
        Check.due("index 1 of 3", x.nameAt(7), 'b');
        Check.due("index 2 of 3", x.nameAt(8), 'a');
        Check.due("index 0 of 2, behind an abstraction", x.nameAt(9), 'b');
    }

    private static void sizes() {
        Check.says("Description", "The size of a term is its number of tokens.");
        Check.due("size() of a variable", Check.with("9").size(), 1);
        Check.due("size() of an abstraction", Check.with("L9").size(), 2);
        Check.due("size() of an application", Check.with("@99").size(), 3);
        Check.due("size() of a full text", Check.with("L".repeat(59) + "9").size(), 60);
        Check.due("size() of three chains", Check.threeChains().size(), 176);
    }

    private static void firstPosition() {
        Check.says("Description", "The position of a subterm is the index of its first token, starting at 0.");
        SubstitutionMachine x = Check.with("@L@010");
        Check.due("chosenRedex(0)", x.chosenRedex(0), 0);
        Check.due("tokenAt(0)", x.tokenAt(0), SubstitutionMachine.APPLICATION);
        Check.due("tokenAt(5)", x.tokenAt(5), 0);
        Check.due("chosenRedex(0) at the end of 60 tokens", Check.with("L".repeat(56) + "@L00").chosenRedex(0), 56);
        Check.due("chosenRedex(2) at the end of 200 tokens", Check.grown("@L00", 200).chosenRedex(2), 196);
    }

    private static void fullTerm() {
        Check.says("Description", "The term of the object has at most 200 tokens.");
        SubstitutionMachine x = Check.grown("9", 200);
        Check.due("size()", x.size(), 200);
        Check.due("tokenAt(198)", x.tokenAt(198), SubstitutionMachine.ABSTRACTION);
        Check.due("tokenAt(199)", x.tokenAt(199), 9);
        Check.due("tokenAt(200)", x.tokenAt(200), Check.NO_SUCH_INDEX);
        Check.due("abstractTerm()", x.abstractTerm(), Check.FULL);
        Check.due("size() after abstractTerm()", x.size(), 200);
        Check.due("freeVariables()", x.freeVariables(), 0);
        Check.due("normalSize()", x.normalSize(), 200);
        Check.due("machinePeak(0)", x.machinePeak(0), 200);
        Check.due("save(0)", x.save(0), 200);
        Check.due("restore(0)", x.restore(0), 200);
        Check.due("sizeAfterRun(0, 200)", x.sizeAfterRun(0, 200), 200);
        Check.due("randomReduction(30)", x.randomReduction(30), 6000);
    }

    private static void positionsOfTokens() {
        Check.says("Promise 7", "NO_SUCH_INDEX if position is negative or not less than the size.");
        SubstitutionMachine x = Check.with("@L01");
        int[] tokens = {1000, 1001, 0, 1};
        for (int i = 0; i < 4; i++) Check.due("tokenAt(" + i + ")", x.tokenAt(i), tokens[i]);
        Check.due("tokenAt(4)", x.tokenAt(4), Check.NO_SUCH_INDEX);
        for (int p : NO_POSITIONS) Check.due("tokenAt(" + p + ")", x.tokenAt(p), Check.NO_SUCH_INDEX);
        Check.due("step(0)", x.step(0), 1);
        Check.due("tokenAt(0) of a smaller term", x.tokenAt(0), 1);
        Check.due("tokenAt(1) of a smaller term", x.tokenAt(1), Check.NO_SUCH_INDEX);
    }

    private static void positionsOfNames() {
        Check.says("Promise 8", "NO_SUCH_INDEX if position is negative or not less than the size; NONE if the token is"
            + " APPLICATION.");
        SubstitutionMachine x = Check.with("@L01");
        Check.due("nameAt(0)", x.nameAt(0), Check.NONE);
        Check.due("nameAt(1)", x.nameAt(1), 'a');
        Check.due("nameAt(2)", x.nameAt(2), 'a');
        Check.due("nameAt(3)", x.nameAt(3), 'B');
        Check.due("nameAt(4)", x.nameAt(4), Check.NO_SUCH_INDEX);
        for (int p : NO_POSITIONS) Check.due("nameAt(" + p + ")", x.nameAt(p), Check.NO_SUCH_INDEX);
        x.step(0);
        Check.due("nameAt(0) of a smaller term", x.nameAt(0), 'B');
        Check.due("nameAt(1) of a smaller term", x.nameAt(1), Check.NO_SUCH_INDEX);
    }

    private static void namesGoOn() {
        Check.says("Promise 8", "Codes above 122 go on in the same way.");
        SubstitutionMachine x = Check.grown("@0@@139", 200);
        Check.due("the name of an abstraction in 25", x.nameAt(25), 122);
        Check.due("the name of an abstraction in 26", x.nameAt(26), 123);
        Check.due("the name of an abstraction in 192", x.nameAt(192), 97 + 192);
        Check.due("the name of index 0 in 193", x.nameAt(194), 97 + 192);
        Check.due("the name of index 9 in 193", x.nameAt(199), 97 + 183);
        x = Check.with("L".repeat(27) + "0");
        Check.due("the name of index 0 in 27", x.nameAt(27), 123);
    }

    private static void freeNames() {
        Check.says("Promise 8", "a free variable number j has the name A, B, C, ... (character code 65 + j)");
        for (int j = 0; j <= 9; j++) Check.due("the name of " + j, Check.with("" + j).nameAt(0), 65 + j);
        SubstitutionMachine x = Check.with("9");
        x.save(0);
        x.restore(0);
        Check.due("abstractTerm()", x.abstractTerm(), 2);
        Check.due("the name of the last one in an abstraction", x.nameAt(1), 65 + 8);
        Check.due("substitute(8, 0)", x.substitute(8, 0), 2);
        Check.dueTerm("after substitute(8, 0)", x, "L[10]");
        Check.due("the name of index 10 in an abstraction", x.nameAt(1), 65 + 9);
    }

    private static void namesOfAbstractions() {
        Check.says("Promise 8", "an abstraction that stands inside d abstractions has the name a, b, c, ...");
        SubstitutionMachine x = Check.with("@LL0L0");
        Check.due("an abstraction in none", x.nameAt(1), 'a');
        Check.due("an abstraction in 1", x.nameAt(2), 'b');
        Check.due("an abstraction in none, behind others", x.nameAt(4), 'a');
    }

    private static void redexes() {
        Check.says("Description", "A redex is an application whose function is an abstraction.");
        Check.due("a variable", Check.with("0").redexCount(), 0);
        Check.due("an abstraction that is an argument", Check.with("@0L0").redexCount(), 0);
        Check.due("an abstraction in the function", Check.with("@@0L00").redexCount(), 0);
        Check.due("the whole term", Check.with("@L00").redexCount(), 1);
        Check.due("one in another's function", Check.with("@L@L000").redexCount(), 2);
        Check.due("one in another's argument", Check.with("@L0@L00").redexCount(), 2);
        Check.due("176 tokens", Check.threeChains().redexCount(), 57);
    }

    private static void strategiesOutOfRange() {
        Check.says("Promise 10", "BAD_VALUE if strategy is out of range; NONE if it chooses none.");
        for (String text : new String[] {"@L00", "L@00"}) {
            SubstitutionMachine x = Check.with(text);
            for (int s : Check.NO_STRATEGIES) {
                Check.due("chosenRedex(" + s + ") of " + text, x.chosenRedex(s), Check.BAD_VALUE);
            }
        }
        for (int s = 0; s < 4; s++) {
            Check.due("chosenRedex(" + s + ") of a redex", Check.with("@L00").chosenRedex(s), 0);
            Check.due("chosenRedex(" + s + ") of none", Check.with("L@0L0").chosenRedex(s), Check.NONE);
            Check.due("chosenRedex(" + s + ") of a variable", Check.with("0").chosenRedex(s), Check.NONE);
        }
    }

    private static void leftmostOutermost() {
        Check.says("Description", "LEFTMOST_OUTERMOST (0): the redex with the smallest position.");
        Check.due("one in another's function", Check.with("@L@L000").chosenRedex(0), 0);
        Check.due("one in an argument", Check.with("@0@L01").chosenRedex(0), 2);
        Check.due("one at the end", Check.with("L@0@1@L00").chosenRedex(0), 5);
        Check.due("two side by side", Check.with("@@L00@L00").chosenRedex(0), 1);
    }

    private static void leftmostInnermost() {
        Check.says("Description", "among the redexes that contain no other redex in their function or argument, the one"
            + " with the smallest position.");
        Check.due("one in the function", Check.with("@L@L000").chosenRedex(1), 2);
        Check.due("one in the argument", Check.with("@L0@L00").chosenRedex(1), 3);
        Check.due("one in the function and one in the argument", Check.with("@L@L00@L01").chosenRedex(1), 2);
        Check.due("one in the argument, and another one behind", Check.with("@@L0@L01@L02").chosenRedex(1), 4);
        Check.due("two side by side", Check.with("@@L00@L00").chosenRedex(1), 1);
        Check.due("a chain", Check.with(Check.CHAIN).chosenRedex(1), 54);
        Check.due("the whole term alone", Check.with("@L@0L0@0L0").chosenRedex(1), 0);
        Check.due("one at the end of an argument", Check.with("@L0@1@L00").chosenRedex(1), 5);
    }

    private static void rightmost() {
        Check.says("Description", "RIGHTMOST (2): the redex with the greatest position.");
        Check.due("one in another's function", Check.with("@L@L000").chosenRedex(2), 2);
        Check.due("one in another's argument", Check.with("@L0@L00").chosenRedex(2), 3);
        Check.due("two side by side", Check.with("@@L00@L00").chosenRedex(2), 5);
        Check.due("an abstraction behind it", Check.with("@@L00L0").chosenRedex(2), 1);
    }

    private static void weakHead() {
        Check.says("Description", "WEAK_HEAD (3): the redex such that all tokens before it are APPLICATION, if there is"
            + " such a redex; otherwise none.");
        Check.due("no token before it", Check.with("@L00").chosenRedex(3), 0);
        Check.due("two applications before it", Check.with("@@@L0000").chosenRedex(3), 2);
        Check.due("an abstraction before it", Check.with("L@L00").chosenRedex(3), Check.NONE);
        Check.due("a variable before it", Check.with("@0@L00").chosenRedex(3), Check.NONE);
        Check.due("applications and a variable before it", Check.with("@@0@L000").chosenRedex(3), Check.NONE);
        Check.due("one in another's argument", Check.with("@L0@L00").chosenRedex(3), 0);
    }

    private static void freeBits() {
        Check.says("Promise 11", "bit j is set if the free variable number j occurs.");
        for (int j = 0; j <= 9; j++) Check.due("of " + j, Check.with("" + j).freeVariables(), 1 << j);
        Check.due("all", Check.with("@@@@@@@@@0123456789").freeVariables(), 1023);
        Check.due("none", Check.with("L0").freeVariables(), 0);
        Check.due("one that occurs twice", Check.with("@11").freeVariables(), 2);
        Check.due("one that occurs at two depths", Check.with("@1L2").freeVariables(), 2);
        Check.due("the last bound one", Check.with("LLL2").freeVariables(), 0);
        Check.due("the first free one", Check.with("LLL3").freeVariables(), 1);
        Check.due("behind an abstraction", Check.with("@LL10").freeVariables(), 1);
    }

    public static void main(String[] args) {
        newObject();
        newObjectIsEmpty();
        boundOrFree();
        boundByWhich();
        sizes();
        firstPosition();
        fullTerm();
        positionsOfTokens();
        positionsOfNames();
        namesGoOn();
        freeNames();
        namesOfAbstractions();
        redexes();
        strategiesOutOfRange();
        leftmostOutermost();
        leftmostInnermost();
        rightmost();
        weakHead();
        freeBits();
        Check.finish();
    }
}
