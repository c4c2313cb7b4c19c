import java.io.IOException;
import java.nio.charset.StandardCharsets;
import java.nio.file.Files;
import java.nio.file.Path;

/**
 * What the tests of the document's sentences share. A test quotes its sentence, so that it can be found from
 * the document and back; a quotation that does not stand in the document is an error of the test.
 */
final class Check {
    static final int NO_SUCH_INDEX = -1, BAD_VALUE = -2, NOT_POSSIBLE = -3, FULL = -4, NONE = -9;
    static final int[] NO_SLOTS = {-1, 2, Integer.MIN_VALUE, Integer.MAX_VALUE};
    static final int[] NO_STRATEGIES = {-1, 4, Integer.MIN_VALUE, Integer.MAX_VALUE};

    /** Each step of a strategy leads to the same term again. */
    static final String OMEGA = "@L@00L@00";
    /** Each step adds 7 tokens to the 13 that it has: 26 steps lead to 195 tokens, and the next is too large. */
    static final String GROWING = "@L@@000L@@000";
    /** 19 redexes, one in the argument of the other. */
    static final String CHAIN = "@L0".repeat(19) + "0";

    private static final Path DOCUMENT = Path.of("../shared/DOC.md");
    private static String document = "";
    private static String sentence = "";
    private static int sentences = 0;
    private static int asked = 0;
    private static int askedBefore = 0;
    private static int wrong = 0;

    private Check() {
    }

    /** Starts the test of a sentence of a section, "Promise 2" or "Description". */
    static void says(String section, String words) {
        endSentence();
        sentence = section + ": " + words;
        sentences++;
        if (!oneLine(sectionText(section)).contains(oneLine(words))) {
            fault("the document does not say this");
        }
    }

    private static void endSentence() {
        if (!sentence.isEmpty() && asked == askedBefore) {
            fault("nothing was asked");
        }
        askedBefore = asked;
    }

    private static String oneLine(String text) {
        return text.replaceAll("\\s+", " ").trim();
    }

    private static String sectionText(String name) {
        readDocument();
        for (String part : document.split("(?m)^## ")) {
            if (part.startsWith(name + ":") || part.startsWith(name + "\n")) return part;
        }
        return "";
    }

    private static void readDocument() {
        if (!document.isEmpty()) return;
        try {
            document = Files.readString(DOCUMENT, StandardCharsets.UTF_8);
        } catch (IOException e) {
            throw new IllegalStateException("cannot read " + DOCUMENT, e);
        }
    }

    private static void fault(String what) {
        wrong++;
        System.out.println("[" + sentence + "] " + what);
    }

    static void due(String what, long got, long want) {
        asked++;
        if (got != want) fault(what + " answered " + got + ", due is " + want);
    }

    static void dueText(String what, String got, String want) {
        asked++;
        if (!got.equals(want)) fault(what + " is " + got + ", due is " + want);
    }

    static void dueTerm(String what, SubstitutionMachine x, String want) {
        dueText("the term, " + what + ",", show(x), want);
    }

    static void finish() {
        endSentence();
        System.out.println(sentences + " sentences, " + asked + " answers, " + wrong + " not as due");
        if (wrong != 0) System.exit(1);
    }

    /** The term as a text; an index above 9 stands in brackets. */
    static String show(SubstitutionMachine x) {
        StringBuilder out = new StringBuilder();
        int size = x.size();
        for (int i = 0; i < size; i++) {
            int token = x.tokenAt(i);
            out.append(token == 1000 ? "@" : token == 1001 ? "L" : token > 9 ? "[" + token + "]" : "" + token);
        }
        return out.toString();
    }

    static void type(SubstitutionMachine x, String text) {
        for (int i = 0; i < text.length(); i++) x.append(text.charAt(i));
    }

    static SubstitutionMachine with(String text) {
        SubstitutionMachine x = new SubstitutionMachine();
        type(x, text);
        if (x.load() != text.length()) throw new IllegalStateException("not a term text: " + text);
        return x;
    }

    static void abstractTimes(SubstitutionMachine x, int times) {
        for (int i = 0; i < times; i++) x.abstractTerm();
    }

    /** A term of the given size: abstractions around the text's term. */
    static SubstitutionMachine grown(String text, int size) {
        SubstitutionMachine x = with(text);
        abstractTimes(x, size - text.length());
        return x;
    }

    /** The text's term applied to a term of the given size, which is the text's term in abstractions. */
    static SubstitutionMachine applied(String text, int size) {
        SubstitutionMachine x = with(text);
        x.save(1);
        abstractTimes(x, size - text.length());
        x.save(0);
        x.restore(1);
        x.applyTo(0);
        return x;
    }

    /** One redex of 106 tokens, which all strategies choose; a step leads to 3 + 98 + 1 + 98 tokens and no redex. */
    static SubstitutionMachine justNotTooLarge() {
        return applied("L@@90L1", 98);
    }

    /** One redex of 107 tokens, which all strategies choose; a step would lead to 3 + 98 + 2 + 98 tokens. */
    static SubstitutionMachine justTooLarge() {
        return applied("L@@90LL2", 98);
    }

    /** Three times CHAIN: 57 redexes, none of which contains another one in its function. */
    static SubstitutionMachine threeChains() {
        SubstitutionMachine x = with(CHAIN);
        x.save(0);
        x.applyTo(0);
        x.applyTo(0);
        return x;
    }
}
