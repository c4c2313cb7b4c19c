/** For each promise of the document: ordinary inputs, the edges that it names, and wrong inputs. */
public final class PromiseTests {
    private static final int NO_SUCH_INDEX = -1, BAD_VALUE = -2, NOT_POSSIBLE = -3, FULL = -4, NONE = -9;
    private static final int[] STRANGE = {-1, Integer.MIN_VALUE, Integer.MAX_VALUE};
    private static final String OMEGA = "@L@00L@00";
    private static final String GROWING = "@L@@000L@@000";
    private static final String TWO_HUNDRED_STEPS = "@L0@@@@@LL@10LLL@2@@210LL@1@1@1@10LL@1@10L00";
    private static int wrong = 0;
    private static int asked = 0;

    private static void due(int promise, String what, long got, long want) {
        asked++;
        if (got != want) {
            wrong++;
            System.out.println("promise " + promise + ": " + what + " answered " + got + ", due is " + want);
        }
    }

    private static void dueTerm(int promise, String what, SubstitutionMachine x, String want) {
        asked++;
        String got = show(x);
        if (!got.equals(want)) {
            wrong++;
            System.out.println("promise " + promise + ": " + what + " left " + got + ", due is " + want);
        }
    }

    /** The term as a text; an index above 9 stands in brackets. */
    private static String show(SubstitutionMachine x) {
        StringBuilder out = new StringBuilder();
        int size = x.size();
        for (int i = 0; i < size; i++) {
            int token = x.tokenAt(i);
            out.append(token == 1000 ? "@" : token == 1001 ? "L" : token > 9 ? "[" + token + "]" : "" + token);
        }
        return out.toString();
    }

    private static void type(SubstitutionMachine x, String text) {
        x.clearText();
        for (int i = 0; i < text.length(); i++) x.append(text.charAt(i));
    }

    private static SubstitutionMachine with(String text) {
        SubstitutionMachine x = new SubstitutionMachine();
        type(x, text);
        if (x.load() != text.length()) throw new IllegalStateException("not a term text: " + text);
        return x;
    }

    /** A term of the given size: abstractions of the text's term. */
    private static SubstitutionMachine grown(String text, int size) {
        SubstitutionMachine x = with(text);
        while (x.size() < size) x.abstractTerm();
        return x;
    }

    private static int error(String text) {
        SubstitutionMachine x = new SubstitutionMachine();
        type(x, text);
        return x.errorPosition();
    }

    private static void promise1() {
        SubstitutionMachine x = new SubstitutionMachine();
        dueTerm(1, "a new object", x, "0");
        due(1, "clearText()", x.clearText(), 0);
        due(1, "undo()", x.undo(), NOT_POSSIBLE);
        due(1, "restore(0)", x.restore(0), NOT_POSSIBLE);
        due(1, "restore(1)", x.restore(1), NOT_POSSIBLE);
        due(1, "forgetAfter(50)", x.forgetAfter(50), 0);
        due(1, "setSeed(1)", x.setSeed(1), 0);
        x.abstractTerm();
        dueTerm(1, "a second object", new SubstitutionMachine(), "0");
    }

    private static void promise2() {
        SubstitutionMachine x = new SubstitutionMachine();
        due(2, "append(0)", x.append(0), 1);
        due(2, "append(255)", x.append(255), 2);
        due(2, "append(-1)", x.append(-1), BAD_VALUE);
        due(2, "append(256)", x.append(256), BAD_VALUE);
        for (int c : STRANGE) due(2, "append(" + c + ")", x.append(c), BAD_VALUE);
        for (int i = 3; i <= 60; i++) due(2, "append(64)", x.append(64), i);
        due(2, "append(64) on a full text", x.append(64), FULL);
        due(2, "append(256) on a full text", x.append(256), BAD_VALUE);
        due(2, "clearText()", x.clearText(), 60);
        due(2, "append(64) after clearText()", x.append(64), 1);
    }

    private static void promise3() {
        SubstitutionMachine x = new SubstitutionMachine();
        due(3, "clearText()", x.clearText(), 0);
        type(x, "L0");
        due(3, "clearText()", x.clearText(), 2);
        due(3, "clearText() again", x.clearText(), 0);
        due(3, "load() of an empty text", x.load(), NOT_POSSIBLE);
    }

    private static void promise4() {
        due(4, "empty text", error(""), 0);
        due(4, "0", error("0"), NONE);
        due(4, "9", error("9"), NONE);
        due(4, "/", error("/"), 0);
        due(4, ":", error(":"), 0);
        due(4, "00", error("00"), 1);
        due(4, "0x", error("0x"), 1);
        due(4, "@L0", error("@L0"), 3);
        due(4, "@L0l", error("@L0l"), 3);
        due(4, "@L01", error("@L01"), NONE);
        due(4, "@L01L", error("@L01L"), 4);
        due(4, "@ 01", error("@ 01"), 1);
        due(4, "60 applications", error("@".repeat(60)), 60);
        due(4, "60 characters", error("L".repeat(59) + "7"), NONE);
    }

    private static void promise5() {
        SubstitutionMachine x = with("@L0L1");
        dueTerm(5, "load()", x, "@L0L1");
        x.observe(3, 2);
        x.setSeed(77);
        x.save(0);
        x.save(1);
        x.abstractTerm();
        x.clearText();
        x.append('L');
        due(5, "load() of L", x.load(), NOT_POSSIBLE);
        dueTerm(5, "a load that fails", x, "L@L0L1");
        due(5, "isEquivalent(0) after a load that fails", x.isEquivalent(0), 0);
        due(5, "undo() after a load that fails", x.undo(), 0);
        x.abstractTerm();
        x.append('5');
        due(5, "load() of L5", x.load(), 2);
        dueTerm(5, "load()", x, "L5");
        due(5, "undo() after load()", x.undo(), NOT_POSSIBLE);
        due(5, "restore(0) after load()", x.restore(0), NOT_POSSIBLE);
        due(5, "restore(1) after load()", x.restore(1), NOT_POSSIBLE);
        due(5, "forgetAfter(50) after load()", x.forgetAfter(50), 1);
        due(5, "setSeed(0) after load()", x.setSeed(0), 77);
        due(5, "clearText() after load()", x.clearText(), 2);
        due(5, "load() of 60 characters", with("L".repeat(59) + "7").size(), 60);
    }

    private static void promises6To8() {
        SubstitutionMachine x = with("@L@0L@11@23");
        due(6, "size()", x.size(), 11);
        int[] tokens = {1000, 1001, 1000, 0, 1001, 1000, 1, 1, 1000, 2, 3};
        int[] names = {NONE, 97, NONE, 97, 98, NONE, 97, 97, NONE, 67, 68};
        for (int i = 0; i < tokens.length; i++) {
            due(7, "tokenAt(" + i + ")", x.tokenAt(i), tokens[i]);
            due(8, "nameAt(" + i + ")", x.nameAt(i), names[i]);
        }
        due(7, "tokenAt(11)", x.tokenAt(11), NO_SUCH_INDEX);
        due(8, "nameAt(11)", x.nameAt(11), NO_SUCH_INDEX);
        for (int p : STRANGE) {
            due(7, "tokenAt(" + p + ")", x.tokenAt(p), NO_SUCH_INDEX);
            due(8, "nameAt(" + p + ")", x.nameAt(p), NO_SUCH_INDEX);
        }
        x = grown("@0@19", 200);
        due(6, "size() of a full term", x.size(), 200);
        due(7, "tokenAt(199)", x.tokenAt(199), 9);
        due(8, "nameAt(194)", x.nameAt(194), 97 + 194);
        due(8, "nameAt(196)", x.nameAt(196), 97 + 194);
        due(8, "nameAt(199)", x.nameAt(199), 97 + 185);
        x = with("LL@2@1@09");
        due(8, "nameAt(3)", x.nameAt(3), 65);
        due(8, "nameAt(5)", x.nameAt(5), 97);
        due(8, "nameAt(7)", x.nameAt(7), 98);
        due(8, "nameAt(8)", x.nameAt(8), 72);
    }

    private static void promises9And10() {
        SubstitutionMachine x = with("@L@L00@L01");
        due(9, "redexCount()", x.redexCount(), 3);
        int[] chosen = {0, 2, 6, 0};
        for (int s = 0; s < 4; s++) due(10, "chosenRedex(" + s + ")", x.chosenRedex(s), chosen[s]);
        due(10, "chosenRedex(4)", x.chosenRedex(4), BAD_VALUE);
        for (int s : STRANGE) due(10, "chosenRedex(" + s + ")", x.chosenRedex(s), BAD_VALUE);
        x = with("@0@L01");
        due(9, "redexCount()", x.redexCount(), 1);
        due(10, "chosenRedex(0)", x.chosenRedex(0), 2);
        due(10, "chosenRedex(3)", x.chosenRedex(3), NONE);
        due(10, "chosenRedex(3) in an abstraction", with("L@L00").chosenRedex(3), NONE);
        due(10, "chosenRedex(3) deep in the head", with("@@@L0000").chosenRedex(3), 2);
        due(10, "chosenRedex(1), redex in the argument", with("@L0@L01").chosenRedex(1), 3);
        due(10, "chosenRedex(1), redexes side by side", with("@@L00@L0@L01").chosenRedex(1), 1);
        x = with("L@@000");
        due(9, "redexCount() without a redex", x.redexCount(), 0);
        for (int s = 0; s < 4; s++) due(10, "chosenRedex(" + s + ") without a redex", x.chosenRedex(s), NONE);
    }

    private static void promise11() {
        due(11, "freeVariables()", with("@L@0L@11@23").freeVariables(), 12);
        due(11, "freeVariables()", with("L@@19@00").freeVariables(), 1 + 256);
        due(11, "freeVariables()", with("9").freeVariables(), 512);
        due(11, "freeVariables() of a closed term", with(OMEGA).freeVariables(), 0);
    }

    private static void promise12() {
        SubstitutionMachine x = with("@L@0L@125");
        due(12, "step(0)", x.step(0), 6);
        dueTerm(12, "step(0)", x, "@5L@61");
        due(12, "undo()", x.undo(), 0);
        x = with("@LL1L@01");
        due(12, "step(3)", x.step(3), 5);
        dueTerm(12, "step(3)", x, "LL@02");
        due(12, "step(3)", x.step(3), NOT_POSSIBLE);
        x = with("@L@L00@L01");
        x.step(1);
        dueTerm(12, "step(1)", x, "@L0@L01");
        x.step(2);
        dueTerm(12, "step(2)", x, "@L01");
        x = with("LLLLLLLLL@LLL@299");
        x.step(0);
        dueTerm(12, "a step that shifts", x, "LLLLLLLLLLL@[11]8");
        due(12, "step(4)", x.step(4), BAD_VALUE);
        for (int s : STRANGE) due(12, "step(" + s + ")", x.step(s), BAD_VALUE);
        due(12, "undo()", x.undo(), 0);
        x = with(GROWING);
        x.run(0, 50);
        String before = show(x);
        due(12, "undo() after run", x.undo(), 0);
        x.run(0, 50);
        due(12, "step(0) too large", x.step(0), FULL);
        dueTerm(12, "a step that is too large", x, before);
        due(12, "undo() after a step that failed", x.undo(), 0);
    }

    /** One step makes the term 51 tokens larger: the body has two copies of an argument of 55 tokens. */
    private static SubstitutionMachine swelling(int size) {
        return grown("@L@00@0" + "L".repeat(52) + "4", size);
    }

    private static void stepsOfLargeTerms() {
        SubstitutionMachine x = swelling(149);
        due(18, "stepsOfRun(0, 1) to 200 tokens", x.stepsOfRun(0, 1), 1);
        due(19, "sizeAfterRun(0, 1) to 200 tokens", x.sizeAfterRun(0, 1), 200);
        due(20, "normalSize() of 200 tokens", x.normalSize(), 200);
        due(25, "runScript(1, 100) to 200 tokens", x.runScript(1, 100), NONE);
        due(30, "randomReduction(1) to 200 tokens", x.randomReduction(1), 200);
        due(12, "step(0) to 200 tokens", x.step(0), 200);
        x = swelling(150);
        due(18, "stepsOfRun(0, 1) to 201 tokens", x.stepsOfRun(0, 1), 0);
        due(19, "sizeAfterRun(0, 1) to 201 tokens", x.sizeAfterRun(0, 1), 150);
        due(20, "normalSize() of 201 tokens", x.normalSize(), NONE);
        due(25, "runScript(1, 100) to 201 tokens", x.runScript(1, 100), 0);
        due(30, "randomReduction(3) to 201 tokens", x.randomReduction(3), 450);
        due(12, "step(0) to 201 tokens", x.step(0), FULL);
        due(13, "run(0, 5) to 201 tokens", x.run(0, 5), 0);
    }

    private static void promise13() {
        SubstitutionMachine x = with("@L@L00@L01");
        due(13, "run(0, 2)", x.run(0, 2), 2);
        dueTerm(13, "run(0, 2)", x, "@L01");
        due(13, "run(3, 50)", x.run(3, 50), 1);
        dueTerm(13, "run(3, 50)", x, "1");
        due(13, "run(1, 1) of no steps", x.run(1, 1), 0);
        due(13, "undo() of a run of no steps", x.undo(), 2);
        dueTerm(13, "undo() of a run of no steps", x, "1");
        due(13, "undo()", x.undo(), 1);
        dueTerm(13, "undo()", x, "@L01");
        x = with(OMEGA);
        due(13, "run(2, 50)", x.run(2, 50), 50);
        due(13, "undo()", x.undo(), 0);
        due(13, "run(0, 0)", x.run(0, 0), BAD_VALUE);
        due(13, "run(0, 51)", x.run(0, 51), BAD_VALUE);
        due(13, "run(4, 1)", x.run(4, 1), BAD_VALUE);
        for (int a : STRANGE) {
            due(13, "run(" + a + ", 1)", x.run(a, 1), BAD_VALUE);
            due(13, "run(0, " + a + ")", x.run(0, a), BAD_VALUE);
        }
        due(13, "undo() after runs that failed", x.undo(), NOT_POSSIBLE);
    }

    private static void promise14() {
        SubstitutionMachine x = with("@0@13");
        due(14, "abstractTerm()", x.abstractTerm(), 6);
        dueTerm(14, "abstractTerm()", x, "L@0@13");
        due(14, "freeVariables()", x.freeVariables(), 5);
        x = grown("0", 199);
        due(14, "abstractTerm() of 199 tokens", x.abstractTerm(), 200);
        due(14, "abstractTerm() of 200 tokens", x.abstractTerm(), FULL);
        due(14, "size()", x.size(), 200);
        due(14, "undo()", x.undo(), 13);
        due(14, "size() after undo()", x.size(), 199);
    }

    private static void promise15() {
        SubstitutionMachine x = with("L@01");
        due(15, "applyTo(0)", x.applyTo(0), NOT_POSSIBLE);
        due(15, "applyTo(2)", x.applyTo(2), NO_SUCH_INDEX);
        for (int a : STRANGE) due(15, "applyTo(" + a + ")", x.applyTo(a), NO_SUCH_INDEX);
        x.save(1);
        due(15, "applyTo(0)", x.applyTo(0), NOT_POSSIBLE);
        x.abstractTerm();
        due(15, "applyTo(1)", x.applyTo(1), 10);
        dueTerm(15, "applyTo(1)", x, "@LL@01L@01");
        due(15, "undo()", x.undo(), 1);
        x = grown("0", 99);
        x.save(0);
        x.abstractTerm();
        due(15, "applyTo(0) to 200 tokens", x.applyTo(0), 200);
        x.undo();
        x.abstractTerm();
        due(15, "applyTo(0) to 201 tokens", x.applyTo(0), FULL);
        due(15, "size() after an applyTo that failed", x.size(), 101);
    }

    private static void promise16() {
        SubstitutionMachine x = with("@L@1L@2@040");
        due(16, "substitute(10, 2)", x.substitute(10, 2), NO_SUCH_INDEX);
        due(16, "substitute(10, 0)", x.substitute(10, 0), BAD_VALUE);
        due(16, "substitute(9, 0)", x.substitute(9, 0), NOT_POSSIBLE);
        for (int a : STRANGE) {
            due(16, "substitute(0, " + a + ")", x.substitute(0, a), NO_SUCH_INDEX);
            due(16, "substitute(" + a + ", 0)", x.substitute(a, 0), BAD_VALUE);
        }
        x = with("L@@01@23");
        x.save(1);
        due(16, "substitute(1, 1)", x.substitute(1, 1), 15);
        dueTerm(16, "substitute(1, 1)", x, "L@@01@L@@02@343");
        due(16, "substitute(9, 1)", x.substitute(9, 1), 15);
        dueTerm(16, "substitute(9, 1)", x, "L@@01@L@@02@343");
        due(16, "undo()", x.undo(), 1);
        due(16, "undo()", x.undo(), 0);
        dueTerm(16, "undo()", x, "L@@01@23");
        x = with("@0L1");
        x.save(1);
        due(16, "substitute(0, 1)", x.substitute(0, 1), 10);
        dueTerm(16, "substitute(0, 1)", x, "@@0L1L@1L2");
        substituteToTheLimit();
    }

    private static void substituteToTheLimit() {
        SubstitutionMachine x = with("@99");
        x.save(1);
        while (x.size() < 99) x.abstractTerm();
        x.save(0);
        x.restore(1);
        x.abstractTerm();
        due(16, "substitute(9, 0) of no occurrence", x.substitute(9, 0), 4);
        due(16, "substitute(8, 0) to 200 tokens", x.substitute(8, 0), 200);
        x.restore(1);
        x.abstractTerm();
        x.abstractTerm();
        due(16, "substitute(7, 0) to 201 tokens", x.substitute(7, 0), FULL);
        dueTerm(16, "a substitute that failed", x, "LL@99");
        due(16, "undo() after a substitute that failed", x.undo(), 1);
    }

    private static void promise17() {
        SubstitutionMachine x = new SubstitutionMachine();
        due(17, "undo()", x.undo(), NOT_POSSIBLE);
        for (int i = 0; i < 15; i++) x.abstractTerm();
        for (int i = 13; i >= 0; i--) {
            due(17, "undo()", x.undo(), i);
            due(17, "size() after undo()", x.size(), i + 2);
        }
        due(17, "undo()", x.undo(), NOT_POSSIBLE);
        dueTerm(17, "undo() of all that is remembered", x, "L0");
        x.abstractTerm();
        due(17, "undo() is not an action", x.undo(), 0);
        x.save(0);
        x.observe(1, 1);
        x.append('0');
        x.setSeed(5);
        x.applyTo(0);
        due(17, "undo()", x.undo(), 0);
        due(17, "restore(0) after undo()", x.restore(0), 2);
        due(17, "forgetAfter(50) after undo()", x.forgetAfter(50), 1);
        due(17, "clearText() after undo()", x.clearText(), 1);
        due(17, "setSeed(0) after undo()", x.setSeed(0), 5);
    }

    private static void promises18And19() {
        SubstitutionMachine x = with("@@LL15" + OMEGA);
        int[][] steps = {{0, 1, 2, 2}, {0, 1, 2, 200}, {0, 1, 2, 200}, {0, 1, 2, 2}};
        int[][] sizes = {{15, 12, 1, 1}, {15, 12, 12, 12}, {15, 15, 15, 15}, {15, 12, 1, 1}};
        int[] limits = {0, 1, 2, 200};
        for (int s = 0; s < 4; s++) {
            for (int i = 0; i < 4; i++) {
                due(18, "stepsOfRun(" + s + ", " + limits[i] + ")", x.stepsOfRun(s, limits[i]), steps[s][i]);
                due(19, "sizeAfterRun(" + s + ", " + limits[i] + ")", x.sizeAfterRun(s, limits[i]), sizes[s][i]);
            }
        }
        int[] wrongLimits = {-1, 201, Integer.MIN_VALUE, Integer.MAX_VALUE};
        for (int a : wrongLimits) {
            due(18, "stepsOfRun(0, " + a + ")", x.stepsOfRun(0, a), BAD_VALUE);
            due(19, "sizeAfterRun(0, " + a + ")", x.sizeAfterRun(0, a), BAD_VALUE);
            due(18, "stepsOfRun(" + a + ", 0)", x.stepsOfRun(a, 0), BAD_VALUE);
            due(19, "sizeAfterRun(" + a + ", 0)", x.sizeAfterRun(a, 0), BAD_VALUE);
        }
        due(18, "stepsOfRun(4, 0)", x.stepsOfRun(4, 0), BAD_VALUE);
        due(19, "sizeAfterRun(4, 0)", x.sizeAfterRun(4, 0), BAD_VALUE);
        dueTerm(18, "predictions", x, "@@LL15" + OMEGA);
        due(18, "undo() after predictions", x.undo(), NOT_POSSIBLE);
        due(18, "stepsOfRun(0, 200) until too large", with(GROWING).stepsOfRun(0, 200), 26);
        due(19, "sizeAfterRun(0, 200) until too large", with(GROWING).sizeAfterRun(0, 200), 195);
    }

    private static void promises20To22() {
        SubstitutionMachine x = with("@@LL15" + OMEGA);
        due(20, "normalSize()", x.normalSize(), 1);
        due(21, "normalTokenAt(0)", x.normalTokenAt(0), 5);
        due(21, "normalTokenAt(1)", x.normalTokenAt(1), NO_SUCH_INDEX);
        for (int a : STRANGE) due(21, "normalTokenAt(" + a + ")", x.normalTokenAt(a), NO_SUCH_INDEX);
        x = with("@LL@1@0L2L@01");
        int[] normal = {1001, 1000, 1000, 0, 1001, 1001, 1000, 0, 3, 1};
        due(20, "normalSize()", x.normalSize(), normal.length);
        for (int i = 0; i < normal.length; i++) {
            due(21, "normalTokenAt(" + i + ")", x.normalTokenAt(i), normal[i]);
        }
        due(21, "normalTokenAt(10)", x.normalTokenAt(10), NO_SUCH_INDEX);
        dueTerm(20, "predictions", x, "@LL@1@0L2L@01");
        x = with(OMEGA);
        due(20, "normalSize() of omega", x.normalSize(), NONE);
        due(21, "normalTokenAt(0) of omega", x.normalTokenAt(0), NONE);
        due(21, "normalTokenAt(-1) of omega", x.normalTokenAt(-1), NONE);
        due(20, "normalSize() after 200 steps", with(TWO_HUNDRED_STEPS).normalSize(), 1);
        due(21, "normalTokenAt(0) after 200 steps", with(TWO_HUNDRED_STEPS).normalTokenAt(0), 0);
        due(20, "normalSize() after 201 steps", with("@L0" + TWO_HUNDRED_STEPS).normalSize(), NONE);
        promise22();
    }

    private static void promise22() {
        SubstitutionMachine x = with("@L0@L0L1");
        due(22, "isEquivalent(0)", x.isEquivalent(0), NOT_POSSIBLE);
        due(22, "isEquivalent(2)", x.isEquivalent(2), NO_SUCH_INDEX);
        for (int a : STRANGE) due(22, "isEquivalent(" + a + ")", x.isEquivalent(a), NO_SUCH_INDEX);
        x.save(1);
        due(22, "isEquivalent(1)", x.isEquivalent(1), 1);
        x.step(0);
        due(22, "isEquivalent(1) after a step", x.isEquivalent(1), 1);
        x.abstractTerm();
        due(22, "isEquivalent(1) after abstractTerm()", x.isEquivalent(1), 0);
        x = with("@01");
        x.save(0);
        x.substitute(1, 0);
        x.save(1);
        x.restore(0);
        due(22, "isEquivalent(1) of another size", x.isEquivalent(1), 0);
        x = with("L@03");
        x.save(0);
        x.abstractTerm();
        x.applyTo(0);
        x.step(0);
        dueTerm(22, "step(0)", x, "L@02");
        due(22, "isEquivalent(0) of another last token", x.isEquivalent(0), 0);
        x = with("@L0" + TWO_HUNDRED_STEPS);
        x.save(0);
        due(22, "isEquivalent(0), both without a normal form", x.isEquivalent(0), NONE);
        x.step(0);
        due(22, "isEquivalent(0), the slot without a normal form", x.isEquivalent(0), NONE);
        x.save(0);
        due(22, "isEquivalent(0), both with a normal form", x.isEquivalent(0), 1);
        x.undo();
        due(22, "isEquivalent(0), the term without a normal form", x.isEquivalent(0), NONE);
    }

    private static void dueMachine(String text, int merging, int[] counts, int peak) {
        SubstitutionMachine x = with(text);
        for (int rule = 0; rule < 5; rule++) {
            String what = "machineSteps(" + rule + ", " + merging + ") of " + text;
            due(23, what, x.machineSteps(rule, merging), counts[rule]);
        }
        due(24, "machinePeak(" + merging + ") of " + text, x.machinePeak(merging), peak);
        dueTerm(23, "the machine", x, text);
        due(23, "undo() after the machine", x.undo(), NOT_POSSIBLE);
    }

    private static void promises23And24() {
        for (int merging = 0; merging < 2; merging++) {
            dueMachine("3", merging, new int[] {0, 0, 0, 0, 0}, 1);
            dueMachine("@L00", merging, new int[] {1, 0, 0, 1, 0}, 4);
            dueMachine("@LL12", merging, new int[] {1, 0, 1, 2, 0}, 6);
        }
        dueMachine("@L@L102", 0, new int[] {2, 1, 1, 3, 0}, 10);
        dueMachine("@L@L102", 1, new int[] {2, 1, 1, 2, 2}, 13);
        SubstitutionMachine x = with("@L00");
        int[] wrongRules = {-1, 5, Integer.MIN_VALUE, Integer.MAX_VALUE};
        int[] wrongMergings = {-1, 2, Integer.MIN_VALUE, Integer.MAX_VALUE};
        for (int a : wrongRules) due(23, "machineSteps(" + a + ", 0)", x.machineSteps(a, 0), BAD_VALUE);
        for (int a : wrongMergings) {
            due(23, "machineSteps(0, " + a + ")", x.machineSteps(0, a), BAD_VALUE);
            due(24, "machinePeak(" + a + ")", x.machinePeak(a), BAD_VALUE);
        }
        x = with(OMEGA);
        due(23, "machineSteps(4, 0) of omega", x.machineSteps(4, 0), NONE);
        due(23, "machineSteps(0, 1) of omega", x.machineSteps(0, 1), NONE);
        due(24, "machinePeak(0) of omega", x.machinePeak(0), NONE);
        machineLimits();
    }

    private static void machineLimits() {
        // @L0 before a text adds a BETA and a LOOKUP: 599 + 2 steps are too many, 598 + 2 are not.
        String last = "@L0@L0@@@@@LL@1@10L0LL@1@10LL@1@1@1@10L00";
        SubstitutionMachine x = with(last);
        int sum = 0;
        for (int rule = 0; rule < 5; rule++) sum += x.machineSteps(rule, 0);
        due(23, "all steps of " + last, sum, 600);
        due(24, "machinePeak(0) of 600 steps", x.machinePeak(0), 193);
        x = with("@L0@L0@@@@LL@1@10LL@1@1@1@10L0LL@10LL@1@10");
        due(23, "machineSteps(0, 0) of 601 steps", x.machineSteps(0, 0), NONE);
        due(24, "machinePeak(0) of 601 steps", x.machinePeak(0), NONE);
        // An abstraction around the term makes all extended terms larger by 1.
        x = with("@@@@LL@1@10LL@10LL@1@1@10L0LL@1@10");
        due(24, "machinePeak(1)", x.machinePeak(1), 299);
        x.abstractTerm();
        due(24, "machinePeak(1)", x.machinePeak(1), 300);
        x.abstractTerm();
        due(24, "machinePeak(1) of 301 tokens", x.machinePeak(1), NONE);
        due(23, "machineSteps(3, 1) of 301 tokens", x.machineSteps(3, 1), NONE);
    }

    private static void promise25() {
        SubstitutionMachine x = with("@L@L00@L01");
        int[] fine = {100, 101, 102, 103, 210, 303, 403, 413, 423, 433, 500};
        for (int group : fine) due(25, "runScript(1, " + group + ")", x.runScript(1, group), NONE);
        int[] failing = {0, 3, 10, 99, 104, 109, 110, 203, 211, 302, 313, 402, 404, 440, 443, 501, 510, 600, 999};
        for (int group : failing) due(25, "runScript(1, " + group + ")", x.runScript(1, group), 0);
        due(25, "runScript(4, 100207302500)", x.runScript(4, 100207302500L), NONE);
        due(25, "runScript(4, 100207302211)", x.runScript(4, 100207302211L), 3);
        due(25, "runScript(4, 500211500212)", x.runScript(4, 500211500212L), NONE);
        due(25, "runScript(4, 100100100100)", x.runScript(4, 100100100100L), 3);
        due(25, "runScript(3, 403210303), a run on a copy", x.runScript(3, 403210303L), NONE);
        due(25, "runScript(2, 210), a first group of 0", x.runScript(2, 210), 0);
        due(25, "runScript(2, 210210)", x.runScript(2, 210210), NONE);
        due(25, "runScript(1, 1000)", x.runScript(1, 1000), BAD_VALUE);
        due(25, "runScript(2, 999999)", x.runScript(2, 999999), 0);
        due(25, "runScript(2, 1000000)", x.runScript(2, 1000000), BAD_VALUE);
        due(25, "runScript(4, 999999999999)", x.runScript(4, 999999999999L), 0);
        due(25, "runScript(4, 1000000000000)", x.runScript(4, 1000000000000L), BAD_VALUE);
        due(25, "runScript(4, the greatest)", x.runScript(4, Long.MAX_VALUE), BAD_VALUE);
        due(25, "runScript(1, -1)", x.runScript(1, -1), BAD_VALUE);
        due(25, "runScript(1, the smallest)", x.runScript(1, Long.MIN_VALUE), BAD_VALUE);
        int[] wrongNumbers = {-1, 0, 5, Integer.MIN_VALUE, Integer.MAX_VALUE};
        for (int n : wrongNumbers) due(25, "runScript(" + n + ", 210)", x.runScript(n, 210), BAD_VALUE);
        dueTerm(25, "scripts", x, "@L@L00@L01");
        due(25, "undo() after scripts", x.undo(), NOT_POSSIBLE);
        due(25, "runScript(2, 500500) of 199 tokens", grown("0", 199).runScript(2, 500500), 1);
        due(25, "runScript(1, 200) of 200 tokens", grown("0", 200).runScript(1, 200), 0);
        due(25, "runScript(1, 409) of omega", with(OMEGA).runScript(1, 409), NONE);
        due(25, "runScript(1, 103) without a head redex", with("L@L00").runScript(1, 103), 0);
    }

    private static void promises26To28() {
        SubstitutionMachine x = with("@@LL15" + OMEGA);
        due(28, "possibleStrategies() without observations", x.possibleStrategies(), 15);
        int[] wrongLimits = {-1, 51, Integer.MIN_VALUE, Integer.MAX_VALUE};
        int[] wrongSizes = {0, -1, 201, Integer.MIN_VALUE, Integer.MAX_VALUE};
        for (int a : wrongLimits) {
            due(26, "observe(" + a + ", 1)", x.observe(a, 1), BAD_VALUE);
            due(27, "forgetAfter(" + a + ")", x.forgetAfter(a), BAD_VALUE);
        }
        for (int a : wrongSizes) due(26, "observe(0, " + a + ")", x.observe(0, a), BAD_VALUE);
        due(27, "forgetAfter(0) of nothing", x.forgetAfter(0), 0);
        due(26, "observe(50, 200)", x.observe(50, 200), 1);
        due(28, "possibleStrategies()", x.possibleStrategies(), 0);
        due(26, "observe(0, 15)", x.observe(0, 15), 2);
        due(27, "forgetAfter(49)", x.forgetAfter(49), 1);
        due(28, "possibleStrategies()", x.possibleStrategies(), 15);
        due(26, "observe(1, 12)", x.observe(1, 12), 2);
        due(28, "possibleStrategies()", x.possibleStrategies(), 11);
        due(26, "observe(50, 1)", x.observe(50, 1), 3);
        due(28, "possibleStrategies()", x.possibleStrategies(), 9);
        due(26, "observe(1, 12) again", x.observe(1, 12), 4);
        x.step(0);
        due(28, "possibleStrategies() after a step", x.possibleStrategies(), 0);
        x.undo();
        due(28, "possibleStrategies() after undo()", x.possibleStrategies(), 9);
        due(27, "forgetAfter(1)", x.forgetAfter(1), 3);
        due(28, "possibleStrategies()", x.possibleStrategies(), 11);
        due(27, "forgetAfter(0)", x.forgetAfter(0), 1);
        observationsInOrder();
    }

    private static void observationsInOrder() {
        SubstitutionMachine x = with("@@LL15" + OMEGA);
        due(26, "observe(3, 200)", x.observe(3, 200), 1);
        due(26, "observe(9, 7)", x.observe(9, 7), 2);
        for (int i = 3; i <= 6; i++) due(26, "observe(0, 15)", x.observe(0, 15), i);
        due(27, "forgetAfter(8)", x.forgetAfter(8), 5);
        due(26, "observe(2, 12)", x.observe(2, 12), 6);
        due(28, "possibleStrategies()", x.possibleStrategies(), 0);
        due(26, "a seventh observation", x.observe(50, 12), 6);
        due(28, "possibleStrategies() without the oldest observation", x.possibleStrategies(), 2);
        for (int i = 0; i < 4; i++) x.observe(40, 12);
        due(27, "forgetAfter(39)", x.forgetAfter(39), 1);
        due(28, "possibleStrategies()", x.possibleStrategies(), 2);
        dueTerm(28, "possibleStrategies()", x, "@@LL15" + OMEGA);
    }

    private static void promises29And30() {
        SubstitutionMachine x = with("@@2@L01@L@00L1");
        due(29, "setSeed(the smallest)", x.setSeed(Long.MIN_VALUE), 0);
        due(29, "setSeed(-1)", x.setSeed(-1), Long.MIN_VALUE);
        due(29, "setSeed(0)", x.setSeed(0), -1);
        int[] wrongNumbers = {-1, 0, 31, Integer.MIN_VALUE, Integer.MAX_VALUE};
        for (int m : wrongNumbers) due(30, "randomReduction(" + m + ")", x.randomReduction(m), BAD_VALUE);
        due(30, "setSeed(0) after random reductions that failed", x.setSeed(0), 0);
        for (long seed = -20; seed < 20; seed++) {
            x.setSeed(seed);
            long next = seed * 6364136223846793005L + 1442695040888963407L;
            int size = (next >>> 33) % 2 == 0 ? 11 : 12;
            due(30, "randomReduction(1) with the seed " + seed, x.randomReduction(1), size);
            due(30, "the seed after randomReduction(1)", x.setSeed(0), next);
        }
        due(30, "randomReduction(30)", x.randomReduction(30) > 0 ? 1 : 0, 1);
        dueTerm(30, "randomReduction", x, "@@2@L01@L@00L1");
        due(30, "undo() after randomReduction", x.undo(), NOT_POSSIBLE);
        x = with("@01");
        x.setSeed(2);
        due(30, "randomReduction(6) without a redex", x.randomReduction(6), 18);
        due(30, "setSeed(0)", x.setSeed(0), 8119572962061839096L);
        x = with("@L0@L0@L01");
        due(30, "randomReduction(5)", x.randomReduction(5), 7 + 4 + 1 + 1 + 1);
    }

    private static void promises31And32() {
        SubstitutionMachine x = with("@L01");
        due(31, "save(2)", x.save(2), NO_SUCH_INDEX);
        due(32, "restore(2)", x.restore(2), NO_SUCH_INDEX);
        for (int a : STRANGE) {
            due(31, "save(" + a + ")", x.save(a), NO_SUCH_INDEX);
            due(32, "restore(" + a + ")", x.restore(a), NO_SUCH_INDEX);
        }
        x.abstractTerm();
        due(32, "restore(0)", x.restore(0), NOT_POSSIBLE);
        due(31, "save(0)", x.save(0), 5);
        due(32, "restore(1)", x.restore(1), NOT_POSSIBLE);
        due(31, "undo() after save and restores that failed", x.undo(), 0);
        due(31, "save(1)", x.save(1), 4);
        x.step(0);
        x.step(0);
        due(32, "restore(0)", x.restore(0), 5);
        dueTerm(32, "restore(0)", x, "L@L01");
        due(32, "undo() after restore(0)", x.undo(), NOT_POSSIBLE);
        due(32, "restore(1)", x.restore(1), 4);
        dueTerm(32, "restore(1)", x, "@L01");
        due(32, "restore(0) again", x.restore(0), 5);
        due(31, "save(1) again", x.save(1), 5);
        due(32, "restore(1)", x.restore(1), 5);
        x.step(0);
        due(32, "restore(1), the slot keeps its term", x.restore(1), 5);
    }

    public static void main(String[] args) {
        promise1();
        promise2();
        promise3();
        promise4();
        promise5();
        promises6To8();
        promises9And10();
        promise11();
        promise12();
        stepsOfLargeTerms();
        promise13();
        promise14();
        promise15();
        promise16();
        promise17();
        promises18And19();
        promises20To22();
        promises23And24();
        promise25();
        promises26To28();
        promises29And30();
        promises31And32();
        System.out.println(wrong == 0 ? asked + " answers are as due" : wrong + " answers are not as due");
        if (wrong != 0) System.exit(1);
    }
}
