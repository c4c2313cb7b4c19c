import java.util.LinkedHashMap;
import java.util.Map;
import java.util.function.Supplier;
import java.util.function.ToIntFunction;

/** Calls that return an error: which error, and that nothing changes. */
public final class ErrorEdges {
    private static final int SMALLEST = Integer.MIN_VALUE, GREATEST = Integer.MAX_VALUE;

    /** The calls that fail, with the error that is due. */
    private static final class Failing {
        private final Map<String, ToIntFunction<SubstitutionMachine>> calls = new LinkedHashMap<>();
        private final Map<String, Integer> errors = new LinkedHashMap<>();

        void add(int error, String name, ToIntFunction<SubstitutionMachine> call) {
            calls.put(name, call);
            errors.put(name, error);
        }

        /** Each call fails on an object of its own, which then answers as one that was not called. */
        void changeNothing(Supplier<SubstitutionMachine> maker) {
            String untouched = state(maker.get());
            for (String name : calls.keySet()) {
                SubstitutionMachine x = maker.get();
                Check.due(name, calls.get(name).applyAsInt(x), errors.get(name));
                Check.dueText("the state after " + name, state(x), untouched);
            }
            SubstitutionMachine all = maker.get();
            for (String name : calls.keySet()) Check.due(name, calls.get(name).applyAsInt(all), errors.get(name));
            Check.dueText("the state after all of them", state(all), untouched);
        }
    }

    /** The term in so few answers that the terms of a long history can be told within 512 calls. */
    private static String brief(SubstitutionMachine x) {
        int size = x.size();
        StringBuilder out = new StringBuilder();
        out.append(size).append(':').append(x.freeVariables()).append(':').append(x.redexCount()).append(':');
        for (int i = 0; i < Math.min(size, 10); i++) out.append(x.tokenAt(i)).append(',');
        return out.append(x.tokenAt(size - 1)).append(' ').toString();
    }

    /** All that the object's answers tell of its state; asking uses the object up. */
    private static String state(SubstitutionMachine x) {
        StringBuilder out = new StringBuilder(brief(x));
        out.append("error ").append(x.errorPosition());
        out.append(" seed ").append(x.setSeed(0));
        out.append(" possible ").append(x.possibleStrategies());
        out.append(" stored ").append(x.observe(25, 1));
        int[] limits = {50, 45, 35, 25, 24, 15, 5, 0};
        for (int n : limits) out.append(' ').append(x.forgetAfter(n));
        out.append(" undo ");
        for (int left = x.undo(); left >= 0; left = x.undo()) out.append(left).append(' ').append(brief(x));
        out.append("slots ");
        for (int slot = 0; slot < 2; slot++) out.append(x.restore(slot)).append(' ').append(brief(x));
        out.append("text ").append(x.load());
        for (int i = 0; i < 3; i++) out.append(' ').append(x.append('0')).append(' ').append(x.load());
        return out.append(' ').append(brief(x)).append(x.clearText()).toString();
    }

    /** Something of everything: 14 remembered terms, 6 observations, a seed, one slot, a text that is not complete. */
    private static SubstitutionMachine rich() {
        SubstitutionMachine x = Check.with("@0@L01");
        x.save(1);
        x.step(0);
        Check.abstractTimes(x, 13);
        x.applyTo(1);
        int[] limits = {40, 0, 10, 20, 30, 50};
        for (int n : limits) x.observe(n, x.size());
        x.setSeed(77);
        x.clearText();
        Check.type(x, "@@L@01");
        return x;
    }

    private static void failingReadings(Failing f) {
        f.add(Check.BAD_VALUE, "append(-1)", x -> x.append(-1));
        f.add(Check.BAD_VALUE, "append(256)", x -> x.append(256));
        f.add(Check.NOT_POSSIBLE, "load()", x -> x.load());
        f.add(Check.NO_SUCH_INDEX, "tokenAt(-1)", x -> x.tokenAt(-1));
        f.add(Check.NO_SUCH_INDEX, "tokenAt(200)", x -> x.tokenAt(200));
        f.add(Check.NO_SUCH_INDEX, "nameAt(-1)", x -> x.nameAt(-1));
        f.add(Check.NO_SUCH_INDEX, "nameAt(200)", x -> x.nameAt(200));
        f.add(Check.BAD_VALUE, "chosenRedex(4)", x -> x.chosenRedex(4));
        f.add(Check.BAD_VALUE, "stepsOfRun(4, 0)", x -> x.stepsOfRun(4, 0));
        f.add(Check.BAD_VALUE, "stepsOfRun(0, 201)", x -> x.stepsOfRun(0, 201));
        f.add(Check.BAD_VALUE, "sizeAfterRun(-1, 0)", x -> x.sizeAfterRun(-1, 0));
        f.add(Check.BAD_VALUE, "sizeAfterRun(0, -1)", x -> x.sizeAfterRun(0, -1));
        f.add(Check.NO_SUCH_INDEX, "normalTokenAt(200)", x -> x.normalTokenAt(200));
        f.add(Check.NO_SUCH_INDEX, "isEquivalent(2)", x -> x.isEquivalent(2));
        f.add(Check.NOT_POSSIBLE, "isEquivalent(0)", x -> x.isEquivalent(0));
        f.add(Check.BAD_VALUE, "machineSteps(5, 0)", x -> x.machineSteps(5, 0));
        f.add(Check.BAD_VALUE, "machineSteps(0, 2)", x -> x.machineSteps(0, 2));
        f.add(Check.BAD_VALUE, "machinePeak(-1)", x -> x.machinePeak(-1));
    }

    private static void failingChanges(Failing f) {
        f.add(Check.BAD_VALUE, "step(-1)", x -> x.step(-1));
        f.add(Check.BAD_VALUE, "step(4)", x -> x.step(4));
        f.add(Check.BAD_VALUE, "run(4, 1)", x -> x.run(4, 1));
        f.add(Check.BAD_VALUE, "run(0, 0)", x -> x.run(0, 0));
        f.add(Check.BAD_VALUE, "run(0, 51)", x -> x.run(0, 51));
        f.add(Check.NO_SUCH_INDEX, "applyTo(2)", x -> x.applyTo(2));
        f.add(Check.NOT_POSSIBLE, "applyTo(0)", x -> x.applyTo(0));
        f.add(Check.NO_SUCH_INDEX, "substitute(0, -1)", x -> x.substitute(0, -1));
        f.add(Check.BAD_VALUE, "substitute(10, 1)", x -> x.substitute(10, 1));
        f.add(Check.NOT_POSSIBLE, "substitute(0, 0)", x -> x.substitute(0, 0));
        f.add(Check.BAD_VALUE, "runScript(5, 201)", x -> x.runScript(5, 201L));
        f.add(Check.BAD_VALUE, "runScript(1, 1000)", x -> x.runScript(1, 1000L));
        f.add(Check.BAD_VALUE, "runScript(1, -1)", x -> x.runScript(1, -1L));
        f.add(Check.BAD_VALUE, "observe(51, 1)", x -> x.observe(51, 1));
        f.add(Check.BAD_VALUE, "observe(0, 201)", x -> x.observe(0, 201));
        f.add(Check.BAD_VALUE, "forgetAfter(-1)", x -> x.forgetAfter(-1));
        f.add(Check.BAD_VALUE, "forgetAfter(51)", x -> x.forgetAfter(51));
        f.add(Check.BAD_VALUE, "randomReduction(0)", x -> x.randomReduction(0));
        f.add(Check.BAD_VALUE, "randomReduction(31)", x -> x.randomReduction(31));
        f.add(Check.NO_SUCH_INDEX, "save(2)", x -> x.save(2));
        f.add(Check.NO_SUCH_INDEX, "save(-1)", x -> x.save(-1));
        f.add(Check.NO_SUCH_INDEX, "restore(2)", x -> x.restore(2));
        f.add(Check.NOT_POSSIBLE, "restore(0)", x -> x.restore(0));
    }

    private static void errorsChangeNothing() {
        Check.says("Description", "A call that returns an error changes nothing and is not an action.");
        Failing f = new Failing();
        failingReadings(f);
        failingChanges(f);
        f.changeNothing(ErrorEdges::rich);
    }

    /** A term without a redex, nothing remembered, one slot and a full text. */
    private static SubstitutionMachine withoutRedex() {
        SubstitutionMachine x = Check.with("L@0L0");
        x.save(0);
        x.clearText();
        Check.type(x, "@".repeat(57) + "0");
        x.append('1');
        x.append('2');
        return x;
    }

    private static void missingThingsChangeNothing() {
        Check.says("Description", "A call that returns an error changes nothing and is not an action.");
        Failing f = new Failing();
        f.add(Check.FULL, "append('0') to a full text", x -> x.append('0'));
        f.add(Check.NOT_POSSIBLE, "undo() of nothing", x -> x.undo());
        f.add(Check.NOT_POSSIBLE, "restore(1) of nothing", x -> x.restore(1));
        f.add(Check.NOT_POSSIBLE, "load() of a full text", x -> x.load());
        for (int s = 0; s < 4; s++) {
            int strategy = s;
            f.add(Check.NOT_POSSIBLE, "step(" + s + ") without a redex", x -> x.step(strategy));
            f.add(Check.NONE, "chosenRedex(" + s + ") without a redex", x -> x.chosenRedex(strategy));
        }
        f.changeNothing(ErrorEdges::withoutRedex);
    }

    private static SubstitutionMachine tooLarge() {
        SubstitutionMachine x = Check.justTooLarge();
        x.save(0);
        x.run(0, 1);
        x.observe(25, 1);
        return x;
    }

    private static void tooLargeResultsChangeNothing() {
        Check.says("Description", "A call that returns an error changes nothing and is not an action.");
        Failing f = new Failing();
        for (int s = 0; s < 4; s++) {
            int strategy = s;
            f.add(Check.FULL, "step(" + s + ") to 201 tokens", x -> x.step(strategy));
        }
        f.add(Check.FULL, "applyTo(0) to 215 tokens", x -> x.applyTo(0));
        f.add(Check.NONE, "normalSize() of 201 tokens", x -> x.normalSize());
        f.add(Check.NONE, "isEquivalent(0) of 201 tokens", x -> x.isEquivalent(0));
        f.changeNothing(ErrorEdges::tooLarge);
    }

    /** 200 tokens, among them an occurrence of the free variable number 9, and a slot with two tokens. */
    private static SubstitutionMachine full() {
        SubstitutionMachine x = Check.with("9");
        x.save(1);
        x.abstractTerm();
        x.save(0);
        Check.abstractTimes(x, 196);
        x.applyTo(1);
        return x;
    }

    private static void fullTermsChangeNothing() {
        Check.says("Description", "A call that returns an error changes nothing and is not an action.");
        Check.due("size()", full().size(), 200);
        Failing f = new Failing();
        f.add(Check.FULL, "abstractTerm() of 200 tokens", x -> x.abstractTerm());
        f.add(Check.FULL, "applyTo(1) of 200 tokens", x -> x.applyTo(1));
        f.add(Check.FULL, "substitute(9, 0) in 200 tokens", x -> x.substitute(9, 0));
        f.add(0, "runScript(1, 500) of 200 tokens", x -> x.runScript(1, 500L));
        f.changeNothing(ErrorEdges::full);
    }

    private static void firstListedError() {
        Check.says("Description", "If several errors apply to a call, the one that is listed first in the description of"
            + " the method is returned.");
        SubstitutionMachine x = withoutRedex();
        Check.due("append(-1) to a full text", x.append(-1), Check.BAD_VALUE);
        Check.due("append(256) to a full text", x.append(256), Check.BAD_VALUE);
        Check.due("chosenRedex(4) without a redex", x.chosenRedex(4), Check.BAD_VALUE);
        Check.due("step(-1) without a redex", x.step(-1), Check.BAD_VALUE);
        x = Check.with(Check.OMEGA);
        for (int slot : Check.NO_SLOTS) {
            Check.due("applyTo(" + slot + ")", x.applyTo(slot), Check.NO_SUCH_INDEX);
            Check.due("substitute(10, " + slot + ")", x.substitute(10, slot), Check.NO_SUCH_INDEX);
            Check.due("isEquivalent(" + slot + ")", x.isEquivalent(slot), Check.NO_SUCH_INDEX);
            Check.due("restore(" + slot + ")", x.restore(slot), Check.NO_SUCH_INDEX);
        }
        Check.due("substitute(10, 0), empty", x.substitute(10, 0), Check.BAD_VALUE);
        Check.due("isEquivalent(1), empty, no normal form", x.isEquivalent(1), Check.NOT_POSSIBLE);
        Check.due("normalTokenAt(-1), no normal form", x.normalTokenAt(-1), Check.NONE);
        Check.due("normalTokenAt(the greatest), no normal form", x.normalTokenAt(GREATEST), Check.NONE);
        Check.due("machineSteps(5, 0), giving up", x.machineSteps(5, 0), Check.BAD_VALUE);
        Check.due("machineSteps(0, -1), giving up", x.machineSteps(0, -1), Check.BAD_VALUE);
        Check.due("machinePeak(the smallest), giving up", x.machinePeak(SMALLEST), Check.BAD_VALUE);
    }

    private static void firstListedErrorOfFullTerms() {
        Check.says("Description", "If several errors apply to a call, the one that is listed first in the description of"
            + " the method is returned.");
        SubstitutionMachine x = Check.grown("0", 200);
        Check.due("applyTo(2) of 200 tokens", x.applyTo(2), Check.NO_SUCH_INDEX);
        Check.due("applyTo(0) of 200 tokens, empty", x.applyTo(0), Check.NOT_POSSIBLE);
        x = full();
        Check.due("substitute(10, 2) in 200 tokens", x.substitute(10, 2), Check.NO_SUCH_INDEX);
        Check.due("substitute(10, 0) in 200 tokens", x.substitute(10, 0), Check.BAD_VALUE);
        Check.due("substitute(9, 2) in 200 tokens", x.substitute(9, 2), Check.NO_SUCH_INDEX);
        x = Check.justTooLarge();
        Check.due("step(4) of a step that is too large", x.step(4), Check.BAD_VALUE);
    }

    private static void valuesOfErrors() {
        Check.says("Description", "Methods report errors by the negative constants below.");
        Check.due("NO_SUCH_INDEX", SubstitutionMachine.NO_SUCH_INDEX, -1);
        Check.due("BAD_VALUE", SubstitutionMachine.BAD_VALUE, -2);
        Check.due("NOT_POSSIBLE", SubstitutionMachine.NOT_POSSIBLE, -3);
        Check.due("FULL", SubstitutionMachine.FULL, -4);
        Check.due("NONE", SubstitutionMachine.NONE, -9);
    }

    public static void main(String[] args) {
        errorsChangeNothing();
        missingThingsChangeNothing();
        tooLargeResultsChangeNothing();
        fullTermsChangeNothing();
        firstListedError();
        firstListedErrorOfFullTerms();
        valuesOfErrors();
        Check.finish();
    }
}
