/** Actions, undo and the save slots (promises 14 to 17, 31 and 32): each sentence that names a boundary case. */
public final class ActionEdges {
    private static void abstractFull() {
        Check.says("Promise 14", "Returns the new size; FULL if the term has 200 tokens.");
        SubstitutionMachine x = Check.grown("0", 198);
        Check.due("abstractTerm() of 198 tokens", x.abstractTerm(), 199);
        Check.due("abstractTerm() of 199 tokens", x.abstractTerm(), 200);
        Check.due("abstractTerm() of 200 tokens", x.abstractTerm(), Check.FULL);
        Check.due("size()", x.size(), 200);
        Check.due("undo()", x.undo(), 13);
        Check.due("size() after undo()", x.size(), 199);
        Check.due("abstractTerm() again", x.abstractTerm(), 200);
    }

    private static void abstractBinds() {
        Check.says("Promise 14", "(So the free variable number 0 becomes bound, and each other free variable gets the"
            + " number that is smaller by 1.)");
        SubstitutionMachine x = Check.with("@0@19");
        Check.due("freeVariables() before", x.freeVariables(), 1 + 2 + 512);
        Check.due("abstractTerm()", x.abstractTerm(), 6);
        Check.dueTerm("after abstractTerm()", x, "L@0@19");
        Check.due("freeVariables() after", x.freeVariables(), 1 + 256);
        Check.due("nameAt(2)", x.nameAt(2), 'a');
        Check.due("nameAt(4)", x.nameAt(4), 'A');
        Check.due("nameAt(5)", x.nameAt(5), 'I');
    }

    private static void applyErrors() {
        Check.says("Promise 15", "Returns the new size; NO_SUCH_INDEX if slot is not 0 or 1; NOT_POSSIBLE if the slot is"
            + " empty; FULL if the result would have more than 200 tokens.");
        SubstitutionMachine x = Check.with("L@01");
        for (int slot : Check.NO_SLOTS) Check.due("applyTo(" + slot + ")", x.applyTo(slot), Check.NO_SUCH_INDEX);
        Check.due("applyTo(0), empty", x.applyTo(0), Check.NOT_POSSIBLE);
        Check.due("applyTo(1), empty", x.applyTo(1), Check.NOT_POSSIBLE);
        x.save(1);
        Check.due("applyTo(0), still empty", x.applyTo(0), Check.NOT_POSSIBLE);
        x.abstractTerm();
        Check.due("applyTo(1)", x.applyTo(1), 10);
        Check.dueTerm("after applyTo(1)", x, "@LL@01L@01");
        Check.due("undo()", x.undo(), 1);
        Check.due("undo()", x.undo(), 0);
    }

    private static void applyFull() {
        Check.says("Promise 15", "FULL if the result would have more than 200 tokens");
        SubstitutionMachine x = Check.grown("0", 99);
        x.save(0);
        x.abstractTerm();
        Check.due("applyTo(0) to 1 + 100 + 99 tokens", x.applyTo(0), 200);
        Check.due("applyTo(0) of 200 tokens", x.applyTo(0), Check.FULL);
        Check.due("applyTo(1) of 200 tokens, empty", x.applyTo(1), Check.NOT_POSSIBLE);
        Check.due("applyTo(2) of 200 tokens", x.applyTo(2), Check.NO_SUCH_INDEX);
        x.undo();
        x.abstractTerm();
        Check.due("applyTo(0) to 1 + 101 + 99 tokens", x.applyTo(0), Check.FULL);
        Check.due("size() after an applyTo that failed", x.size(), 101);
        Check.due("tokenAt(0) after an applyTo that failed", x.tokenAt(0), SubstitutionMachine.ABSTRACTION);
        Check.due("undo()", x.undo(), 13);
        Check.due("size() after undo()", x.size(), 100);
        x = new SubstitutionMachine();
        x.save(0);
        Check.abstractTimes(x, 197);
        Check.due("applyTo(0) to 1 + 198 + 1 tokens", x.applyTo(0), 200);
        x.undo();
        x.abstractTerm();
        Check.due("applyTo(0) to 1 + 199 + 1 tokens", x.applyTo(0), Check.FULL);
    }

    private static void substituteErrors() {
        Check.says("Promise 16", "NO_SUCH_INDEX if slot is not 0 or 1; BAD_VALUE if j is out of range; NOT_POSSIBLE if the"
            + " slot is empty; FULL if the result would have more than 200 tokens.");
        SubstitutionMachine x = Check.with("@09");
        x.save(1);
        int[] wrong = {-1, 10, Integer.MIN_VALUE, Integer.MAX_VALUE};
        for (int slot : Check.NO_SLOTS) {
            Check.due("substitute(0, " + slot + ")", x.substitute(0, slot), Check.NO_SUCH_INDEX);
            for (int j : wrong) {
                Check.due("substitute(" + j + ", " + slot + ")", x.substitute(j, slot), Check.NO_SUCH_INDEX);
            }
        }
        for (int j : wrong) {
            Check.due("substitute(" + j + ", 0), empty", x.substitute(j, 0), Check.BAD_VALUE);
            Check.due("substitute(" + j + ", 1)", x.substitute(j, 1), Check.BAD_VALUE);
        }
        Check.due("substitute(0, 0), empty", x.substitute(0, 0), Check.NOT_POSSIBLE);
        Check.due("substitute(9, 0), empty", x.substitute(9, 0), Check.NOT_POSSIBLE);
        Check.due("substitute(9, 1)", x.substitute(9, 1), 5);
        Check.dueTerm("after substitute(9, 1)", x, "@0@09");
        Check.due("substitute(0, 1)", x.substitute(0, 1), 9);
        Check.dueTerm("after substitute(0, 1)", x, "@@09@@099");
    }

    private static void substituteFull() {
        Check.says("Promise 16", "FULL if the result would have more than 200 tokens");
        SubstitutionMachine x = Check.with("@99");
        x.save(1);
        Check.abstractTimes(x, 96);
        x.save(0);
        x.restore(1);
        x.abstractTerm();
        Check.due("substitute(8, 0) to 2 + 99 + 99 tokens", x.substitute(8, 0), 200);
        x.undo();
        x.abstractTerm();
        Check.due("substitute(7, 0) to 3 + 99 + 99 tokens", x.substitute(7, 0), Check.FULL);
        Check.dueTerm("after a substitute that failed", x, "LL@99");
        Check.due("undo()", x.undo(), 1);
        x = Check.grown("9", 10);
        x.save(0);
        Check.abstractTimes(x, 190);
        Check.due("substitute(0, 0) in 200 tokens, no occurrence", x.substitute(0, 0), 200);
        Check.due("substitute(10, 0) in 200 tokens", x.substitute(10, 0), Check.BAD_VALUE);
        Check.due("substitute(0, 1) in 200 tokens, empty", x.substitute(0, 1), Check.NOT_POSSIBLE);
    }

    private static void substituteOnlyOne() {
        Check.says("Promise 16", "Replaces each occurrence of a free variable of the term by the term in a slot, shifted by"
            + " the number of abstractions around the occurrence. All other variables stay as they are.");
        SubstitutionMachine x = Check.with("@@0L@01L@0L@12");
        x.save(0);
        x.save(1);
        Check.due("substitute(1, 0), no occurrence", x.substitute(1, 0), 14);
        Check.dueTerm("after substitute(1, 0)", x, "@@0L@01L@0L@12");
        x = Check.with("@1@L@@0121");
        x.save(1);
        x.restore(1);
        Check.due("substitute(0, 1)", x.substitute(0, 1), 19);
        Check.dueTerm("after substitute(0, 1)", x, "@1@L@@0@2@L@@023221");
        x = Check.with("@1L@02");
        x.save(0);
        x.abstractTerm();
        Check.due("substitute(0, 0), at two depths", x.substitute(0, 0), 17);
        Check.dueTerm("after substitute(0, 0)", x, "L@@2L@03L@0@3L@04");
        x = Check.with("L@@0LL31");
        x.save(1);
        x.abstractTerm();
        x.applyTo(1);
        Check.due("substitute(0, 1), behind abstractions", x.substitute(0, 1), 18 + 2 * 7);
        Check.dueTerm("after substitute(0, 1)", x, "@LL@@0LL31L@@0LLL@@0LL64L@@0LL42");
    }

    private static void substituteEveryNumber() {
        Check.says("Promise 16", "`j`: number of the free variable, 0 to 9");
        for (int j = 0; j <= 9; j++) {
            SubstitutionMachine x = Check.with("@@@@@@@@@0123456789");
            x.save(0);
            Check.due("substitute(" + j + ", 0)", x.substitute(j, 0), 37);
            Check.due("the token before", x.tokenAt(8 + j), j == 0 ? 1000 : j - 1);
            Check.due("the first token of the replacement", x.tokenAt(9 + j), 1000);
            Check.due("the last token of the replacement", x.tokenAt(27 + j), 9);
        }
    }

    private static void evenIfEqual() {
        Check.says("Description", "Each successful call of step, run, abstractTerm, applyTo and substitute is an action,"
            + " even if the term stays equal.");
        SubstitutionMachine x = Check.with(Check.OMEGA);
        x.save(0);
        x.step(0);
        Check.dueTerm("after step(0)", x, Check.OMEGA);
        Check.due("undo() of a step", x.undo(), 0);
        x.run(2, 3);
        Check.dueTerm("after run(2, 3)", x, Check.OMEGA);
        Check.due("undo() of a run", x.undo(), 0);
        x.substitute(4, 0);
        Check.dueTerm("after substitute(4, 0)", x, Check.OMEGA);
        Check.due("undo() of substitute", x.undo(), 0);
        x.abstractTerm();
        Check.due("undo() of abstractTerm", x.undo(), 0);
        x.applyTo(0);
        Check.due("undo() of applyTo", x.undo(), 0);
        Check.dueTerm("after all", x, Check.OMEGA);
        x.step(0);
        x.run(2, 3);
        x.substitute(4, 0);
        x.abstractTerm();
        x.applyTo(0);
        for (int i = 4; i >= 0; i--) Check.due("undo()", x.undo(), i);
        Check.due("undo()", x.undo(), Check.NOT_POSSIBLE);
    }

    private static void fourteenRemembered() {
        Check.says("Description", "The object remembers the term before each of the last 14 actions; when a fifteenth"
            + " action happens, the oldest remembered term is forgotten.");
        for (int actions = 13; actions <= 30; actions++) {
            SubstitutionMachine x = new SubstitutionMachine();
            Check.abstractTimes(x, actions);
            int remembered = Math.min(actions, 14);
            for (int i = 1; i <= remembered; i++) {
                Check.due("undo() number " + i + " after " + actions, x.undo(), remembered - i);
                Check.due("size() after undo() number " + i, x.size(), actions + 1 - i);
            }
            Check.due("undo() of what is forgotten", x.undo(), Check.NOT_POSSIBLE);
            Check.due("size()", x.size(), actions + 1 - remembered);
        }
    }

    private static void fifteenthOfEachKind() {
        Check.says("Description", "when a fifteenth action happens, the oldest remembered term is forgotten");
        for (int kind = 0; kind < 5; kind++) {
            SubstitutionMachine x = Check.with("@L@0@L005");
            x.save(0);
            x.run(0, 1);
            for (int i = 0; i < 13; i++) x.substitute(9, 0);
            int size = x.size();
            if (kind == 0) x.step(0);
            if (kind == 1) x.run(0, 50);
            if (kind == 2) x.abstractTerm();
            if (kind == 3) x.applyTo(0);
            if (kind == 4) x.substitute(5, 0);
            Check.due("undo() of the fifteenth", x.undo(), 13);
            for (int i = 12; i >= 0; i--) Check.due("undo()", x.undo(), i);
            Check.due("undo() of the first", x.undo(), Check.NOT_POSSIBLE);
            Check.due("size() after the first action", x.size(), size);
        }
    }

    private static void undoBetweenActions() {
        Check.says("Description", "undo is not an action.");
        SubstitutionMachine x = new SubstitutionMachine();
        Check.abstractTimes(x, 14);
        for (int i = 13; i >= 7; i--) Check.due("undo()", x.undo(), i);
        Check.due("size()", x.size(), 8);
        Check.abstractTimes(x, 8);
        for (int i = 13; i >= 0; i--) {
            Check.due("undo() after new actions", x.undo(), i);
            Check.due("size()", x.size(), i + 2);
        }
        Check.due("undo() of what is forgotten", x.undo(), Check.NOT_POSSIBLE);
        x.abstractTerm();
        Check.due("undo()", x.undo(), 0);
        Check.due("undo() of undo()", x.undo(), Check.NOT_POSSIBLE);
        Check.dueTerm("after all", x, "L0");
    }

    private static void undoNothing() {
        Check.says("Promise 17", "Returns how many terms are still remembered; NOT_POSSIBLE if none is remembered.");
        SubstitutionMachine x = new SubstitutionMachine();
        Check.due("undo() of a new object", x.undo(), Check.NOT_POSSIBLE);
        x.abstractTerm();
        x.abstractTerm();
        Check.due("undo()", x.undo(), 1);
        Check.dueTerm("after the first undo()", x, "L0");
        Check.due("undo()", x.undo(), 0);
        Check.dueTerm("after the second undo()", x, "0");
        Check.due("undo()", x.undo(), Check.NOT_POSSIBLE);
        Check.dueTerm("after an undo() that failed", x, "0");
    }

    private static void undoLargeTerms() {
        Check.says("Promise 17", "Takes back the last action that is remembered.");
        SubstitutionMachine x = Check.justNotTooLarge();
        x.step(0);
        x.run(0, 1);
        Check.due("undo() to 200 tokens", x.undo(), 2);
        Check.due("size()", x.size(), 200);
        Check.due("tokenAt(199)", x.tokenAt(199), 1);
        Check.due("undo() to 106 tokens", x.undo(), 1);
        Check.due("size()", x.size(), 106);
        Check.due("undo() to 7 tokens", x.undo(), 0);
        Check.dueTerm("after all", x, "L@@90L1");
    }

    private static void othersStay() {
        Check.says("Description", "The text, the observations, the seed and the save slots are not changed by actions and"
            + " undo.");
        SubstitutionMachine x = Check.with("@L@0@L005");
        x.save(0);
        x.save(1);
        x.setSeed(77);
        for (int i = 0; i < 6; i++) x.observe(0, 9);
        x.step(0);
        x.run(1, 50);
        x.abstractTerm();
        x.applyTo(0);
        x.substitute(4, 1);
        for (int i = 0; i < 6; i++) x.undo();
        Check.due("possibleStrategies()", x.possibleStrategies(), 15);
        Check.due("forgetAfter(50)", x.forgetAfter(50), 6);
        Check.due("setSeed(0)", x.setSeed(0), 77);
        for (int slot = 0; slot < 2; slot++) {
            x.abstractTerm();
            Check.due("restore(" + slot + ")", x.restore(slot), 9);
            Check.dueTerm("after restore(" + slot + ")", x, "@L@0@L005");
        }
        x.abstractTerm();
        Check.due("load()", x.load(), 9);
        Check.dueTerm("after load()", x, "@L@0@L005");
        Check.due("clearText()", x.clearText(), 9);
    }

    private static void saveSlots() {
        Check.says("Promise 31", "Returns the size of the term; NO_SUCH_INDEX if slot is not 0 or 1.");
        SubstitutionMachine x = Check.with("@L01");
        for (int slot : Check.NO_SLOTS) Check.due("save(" + slot + ")", x.save(slot), Check.NO_SUCH_INDEX);
        Check.due("restore(0) after saves that failed", x.restore(0), Check.NOT_POSSIBLE);
        Check.due("restore(1) after saves that failed", x.restore(1), Check.NOT_POSSIBLE);
        Check.due("save(0)", x.save(0), 4);
        Check.due("restore(1), still empty", x.restore(1), Check.NOT_POSSIBLE);
        x.abstractTerm();
        Check.due("save(1)", x.save(1), 5);
        Check.due("undo(), save is not an action", x.undo(), 0);
        Check.due("restore(1)", x.restore(1), 5);
        Check.due("restore(0)", x.restore(0), 4);
        x.step(0);
        Check.due("save(0) over the old term", x.save(0), 1);
        x.restore(1);
        Check.due("restore(0)", x.restore(0), 1);
        Check.dueTerm("after restore(0)", x, "1");
    }

    private static void restoreErrors() {
        Check.says("Promise 32", "NO_SUCH_INDEX if slot is not 0 or 1; NOT_POSSIBLE if the slot is empty.");
        SubstitutionMachine x = Check.with("@L01");
        x.abstractTerm();
        for (int slot : Check.NO_SLOTS) Check.due("restore(" + slot + ")", x.restore(slot), Check.NO_SUCH_INDEX);
        Check.due("restore(0), empty", x.restore(0), Check.NOT_POSSIBLE);
        Check.due("restore(1), empty", x.restore(1), Check.NOT_POSSIBLE);
        x.save(1);
        Check.due("restore(0), empty", x.restore(0), Check.NOT_POSSIBLE);
        for (int slot : Check.NO_SLOTS) Check.due("restore(" + slot + ")", x.restore(slot), Check.NO_SUCH_INDEX);
        Check.dueTerm("after restores that failed", x, "L@L01");
        Check.due("undo() after restores that failed", x.undo(), 0);
        Check.due("restore(1)", x.restore(1), 5);
    }

    private static void restoreForgets() {
        Check.says("Promise 32", "forgets all remembered terms. The slot keeps its term. This is not an action.");
        SubstitutionMachine x = Check.with("@L01");
        x.save(0);
        Check.abstractTimes(x, 15);
        Check.due("restore(0)", x.restore(0), 4);
        Check.due("undo() after restore(0)", x.undo(), Check.NOT_POSSIBLE);
        Check.dueTerm("after undo()", x, "@L01");
        x.step(0);
        Check.due("undo() of the first action after restore(0)", x.undo(), 0);
        x.step(0);
        Check.due("restore(0), the slot keeps its term", x.restore(0), 4);
        Check.dueTerm("after restore(0)", x, "@L01");
        x.abstractTerm();
        Check.due("restore(0) again", x.restore(0), 4);
        Check.due("undo() after restore(0)", x.undo(), Check.NOT_POSSIBLE);
    }

    private static void manyCalls() {
        Check.says("What it is", "An object is used for at most 512 calls after it has been made");
        SubstitutionMachine x = new SubstitutionMachine();
        for (int i = 0; i < 165; i++) {
            x.abstractTerm();
            x.abstractTerm();
            x.undo();
        }
        Check.due("size() after 495 calls", x.size(), 166);
        for (int i = 12; i >= 0; i--) Check.due("undo()", x.undo(), i);
        Check.due("undo() of what is forgotten", x.undo(), Check.NOT_POSSIBLE);
        Check.due("size(), call 511", x.size(), 153);
        Check.due("abstractTerm(), call 512", x.abstractTerm(), 154);
    }

    public static void main(String[] args) {
        abstractFull();
        abstractBinds();
        applyErrors();
        applyFull();
        substituteErrors();
        substituteFull();
        substituteOnlyOne();
        substituteEveryNumber();
        evenIfEqual();
        fourteenRemembered();
        fifteenthOfEachKind();
        undoBetweenActions();
        undoNothing();
        undoLargeTerms();
        othersStay();
        saveSlots();
        restoreErrors();
        restoreForgets();
        manyCalls();
        Check.finish();
    }
}
