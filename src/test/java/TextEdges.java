/** The text buffer and term texts (promises 2 to 5): each sentence of the document that names a boundary case. */
public final class TextEdges {
    private static int errorOf(String text) {
        SubstitutionMachine x = new SubstitutionMachine();
        Check.type(x, text);
        return x.errorPosition();
    }

    private static int loadOf(String text) {
        SubstitutionMachine x = new SubstitutionMachine();
        Check.type(x, text);
        return x.load();
    }

    private static void textHasRoomForSixty() {
        Check.says("Description", "The object has a text buffer of at most 60 characters.");
        SubstitutionMachine x = new SubstitutionMachine();
        for (int i = 1; i <= 60; i++) Check.due("append number " + i, x.append('L'), i);
        Check.due("append number 61", x.append('0'), Check.FULL);
        Check.due("append number 62", x.append('0'), Check.FULL);
        Check.due("errorPosition() of 60 abstractions", x.errorPosition(), 60);
        Check.due("clearText()", x.clearText(), 60);
    }

    private static void appendKnowsItsRange() {
        Check.says("Promise 2", "`c`: character code, 0 to 255");
        SubstitutionMachine x = new SubstitutionMachine();
        Check.due("append(0)", x.append(0), 1);
        Check.due("append(255)", x.append(255), 2);
        Check.due("append(-1)", x.append(-1), Check.BAD_VALUE);
        Check.due("append(256)", x.append(256), Check.BAD_VALUE);
        Check.due("append(the smallest)", x.append(Integer.MIN_VALUE), Check.BAD_VALUE);
        Check.due("append(the greatest)", x.append(Integer.MAX_VALUE), Check.BAD_VALUE);
        Check.due("append('0' + 65536)", x.append('0' + 65536), Check.BAD_VALUE);
        Check.due("append(1)", x.append(1), 3);
    }

    private static void appendTellsItsErrors() {
        Check.says("Promise 2", "Returns the new length of the text; BAD_VALUE if c is out of range;"
            + " FULL if the text already has 60 characters.");
        SubstitutionMachine x = new SubstitutionMachine();
        Check.type(x, "@".repeat(59));
        Check.due("append(256) to 59 characters", x.append(256), Check.BAD_VALUE);
        Check.due("append(0) to 59 characters", x.append(0), 60);
        Check.due("append(0) to 60 characters", x.append(0), Check.FULL);
        Check.due("append(-1) to 60 characters", x.append(-1), Check.BAD_VALUE);
        Check.due("append(256) to 60 characters", x.append(256), Check.BAD_VALUE);
        Check.due("errorPosition()", x.errorPosition(), 59);
        x.clearText();
        Check.due("append(0) after clearText()", x.append(0), 1);
    }

    private static void clearTextEmpties() {
        Check.says("Promise 3", "Empties the text buffer. Returns the previous length of the text.");
        SubstitutionMachine x = new SubstitutionMachine();
        Check.due("clearText() of an empty text", x.clearText(), 0);
        Check.type(x, "L0");
        Check.due("clearText() of L0", x.clearText(), 2);
        Check.due("clearText() again", x.clearText(), 0);
        Check.due("load() of an empty text", x.load(), Check.NOT_POSSIBLE);
        x.append('L');
        Check.due("errorPosition(), the old 0 is gone", x.errorPosition(), 1);
        x.clearText();
        Check.type(x, "7".repeat(60));
        Check.due("clearText() of a full text", x.clearText(), 60);
        Check.due("errorPosition() after clearText()", x.errorPosition(), 0);
    }

    private static void firstWrongCharacter() {
        Check.says("Description", "The error position of the text is the index of the first character such that no"
            + " term text starts with the text up to and including that character, ignoring the length limit.");
        Check.due("xL", errorOf("xL"), 0);
        Check.due("@x0y", errorOf("@x0y"), 1);
        Check.due("00, behind a complete term", errorOf("00"), 1);
        Check.due("0L, behind a complete term", errorOf("0L"), 1);
        Check.due("@01@, behind a complete term", errorOf("@01@"), 3);
        Check.due("L0x, behind a complete term", errorOf("L0x"), 2);
        Check.due("the last of 60 characters", errorOf("L".repeat(59) + "x"), 59);
        Check.due("a text that no 60 characters complete", errorOf("@".repeat(31) + "0".repeat(29)), 60);
        Check.due("60 applications", errorOf("@".repeat(60)), 60);
        Check.due("a wrong one behind 59 applications", errorOf("@".repeat(59) + "l"), 59);
    }

    private static void writtenTokens() {
        Check.says("Description", "the token ABSTRACTION is written L, the token APPLICATION is written @ and"
            + " a variable is written as its index, one digit.");
        for (char c = 0; c <= 255; c++) {
            boolean digit = c >= '0' && c <= '9';
            boolean starts = c == 'L' || c == '@';
            Check.due("code " + (int) c, errorOf("" + c), digit ? Check.NONE : starts ? 1 : 0);
            Check.due("L and code " + (int) c, errorOf("L" + c), digit ? Check.NONE : starts ? 2 : 1);
        }
        Check.due("L10, an index of two digits", errorOf("L10"), 2);
        for (int i = 0; i <= 9; i++) Check.due("the index", Check.with("" + i).tokenAt(0), i);
    }

    private static void incompleteText() {
        Check.says("Description", "If there is no such character but the text is not a complete term text, the error"
            + " position is the length of the text.");
        Check.due("the empty text", errorOf(""), 0);
        Check.due("L", errorOf("L"), 1);
        Check.due("@", errorOf("@"), 1);
        Check.due("@0", errorOf("@0"), 2);
        Check.due("@@00", errorOf("@@00"), 4);
        Check.due("60 characters", errorOf("@0".repeat(30)), 60);
    }

    private static void completeText() {
        Check.says("Promise 4", "Returns the error position of the text, or NONE if the text is a complete term text.");
        Check.due("0", errorOf("0"), Check.NONE);
        Check.due("9", errorOf("9"), Check.NONE);
        Check.due("@L01", errorOf("@L01"), Check.NONE);
        Check.due("60 characters", errorOf("L".repeat(59) + "9"), Check.NONE);
        Check.due("59 characters", errorOf("@".repeat(29) + "0".repeat(30)), Check.NONE);
        SubstitutionMachine x = new SubstitutionMachine();
        Check.type(x, "L0");
        x.errorPosition();
        Check.due("clearText() after errorPosition()", x.clearText(), 2);
    }

    private static void loadRefuses() {
        Check.says("Promise 5", "Returns the size of the term; NOT_POSSIBLE if the text is not a complete term text.");
        String[] refused = {"", "L", "@0", "00", "x", "L0 ", "l0", "@".repeat(60), "L".repeat(60)};
        for (String text : refused) Check.due("load() of '" + text + "'", loadOf(text), Check.NOT_POSSIBLE);
        Check.due("load() of one character", loadOf("9"), 1);
        Check.due("load() of 60 characters", loadOf("L".repeat(59) + "9"), 60);
        SubstitutionMachine x = new SubstitutionMachine();
        x.save(1);
        x.abstractTerm();
        Check.due("load() of an empty text", x.load(), Check.NOT_POSSIBLE);
        Check.dueTerm("after a load that failed", x, "L0");
        Check.due("undo() after a load that failed", x.undo(), 0);
        Check.due("restore(1) after a load that failed", x.restore(1), 1);
    }

    private static void loadForgets() {
        Check.says("Promise 5", "Forgets all remembered terms and empties both save slots. Keeps the text,"
            + " the observations and the seed.");
        SubstitutionMachine x = Check.with("L1");
        x.save(0);
        x.save(1);
        x.setSeed(-5);
        for (int i = 0; i < 6; i++) x.observe(i, 2);
        Check.abstractTimes(x, 15);
        Check.due("load() again", x.load(), 2);
        Check.dueTerm("after load()", x, "L1");
        Check.due("undo()", x.undo(), Check.NOT_POSSIBLE);
        Check.due("restore(0)", x.restore(0), Check.NOT_POSSIBLE);
        Check.due("restore(1)", x.restore(1), Check.NOT_POSSIBLE);
        Check.due("setSeed(0)", x.setSeed(0), -5);
        Check.due("possibleStrategies()", x.possibleStrategies(), 15);
        Check.due("forgetAfter(50)", x.forgetAfter(50), 6);
        Check.due("errorPosition()", x.errorPosition(), Check.NONE);
        Check.due("clearText()", x.clearText(), 2);
        x.abstractTerm();
        Check.due("undo() of the first action after load()", x.undo(), 0);
    }

    public static void main(String[] args) {
        textHasRoomForSixty();
        appendKnowsItsRange();
        appendTellsItsErrors();
        clearTextEmpties();
        firstWrongCharacter();
        writtenTokens();
        incompleteText();
        completeText();
        loadRefuses();
        loadForgets();
        Check.finish();
    }
}
