import java.util.ArrayList;
import java.util.List;
import java.util.Random;

/**
 * Random runs of calls, compared with a second, slow program that holds terms as trees and follows the
 * document's words (contraction is done another way: by substitution with shifts up and down).
 */
public final class ModelRuns {
    static final int VAR = 0, ABS = 1, APP = 2, CLO = 3;
    static final int NONE = -9;

    /** A term or an extended term. */
    static final class Node {
        final int kind;
        final int value;
        final Node[] parts;
        final int size;

        Node(int kind, int value, Node... parts) {
            this.kind = kind;
            this.value = value;
            this.parts = parts;
            int sum = 1;
            for (Node part : parts) sum += part.size;
            this.size = sum;
        }
    }

    static Node var(int index) { return new Node(VAR, index); }
    static Node abs(Node body) { return new Node(ABS, 0, body); }
    static Node app(Node f, Node a) { return new Node(APP, 0, f, a); }

    static Node clo(Node body, List<Node> entries, int shift) {
        Node[] parts = new Node[entries.size() + 1];
        parts[0] = body;
        for (int i = 0; i < entries.size(); i++) parts[i + 1] = entries.get(i);
        return new Node(CLO, shift, parts);
    }

    static List<Node> entries(Node closure) {
        List<Node> list = new ArrayList<>();
        for (int i = 1; i < closure.parts.length; i++) list.add(closure.parts[i]);
        return list;
    }

    static List<Integer> tokens(Node t) {
        List<Integer> list = new ArrayList<>();
        addTokens(t, list);
        return list;
    }

    static void addTokens(Node t, List<Integer> list) {
        list.add(t.kind == VAR ? t.value : t.kind == ABS ? 1001 : 1000);
        for (Node part : t.parts) addTokens(part, list);
    }

    static Node shift(Node t, int by, int cutoff) {
        if (t.kind == VAR) return t.value >= cutoff ? var(t.value + by) : t;
        if (t.kind == ABS) return abs(shift(t.parts[0], by, cutoff + 1));
        return app(shift(t.parts[0], by, cutoff), shift(t.parts[1], by, cutoff));
    }

    static Node replace(Node t, int index, Node by) {
        if (t.kind == VAR) return t.value == index ? by : t;
        if (t.kind == ABS) return abs(replace(t.parts[0], index + 1, shift(by, 1, 0)));
        return app(replace(t.parts[0], index, by), replace(t.parts[1], index, by));
    }

    static boolean isRedex(Node t) { return t.kind == APP && t.parts[0].kind == ABS; }

    static Node contract(Node redex) {
        return shift(replace(redex.parts[0].parts[0], 0, shift(redex.parts[1], 1, 0)), -1, 0);
    }

    static Node contractAt(Node t, int position) {
        if (position == 0) return contract(t);
        if (t.kind == ABS) return abs(contractAt(t.parts[0], position - 1));
        int argument = 1 + t.parts[0].size;
        if (position < argument) return app(contractAt(t.parts[0], position - 1), t.parts[1]);
        return app(t.parts[0], contractAt(t.parts[1], position - argument));
    }

    static Node subtermAt(Node t, int position) {
        if (position == 0) return t;
        int start = 1;
        for (Node part : t.parts) {
            if (position < start + part.size) return subtermAt(part, position - start);
            start += part.size;
        }
        throw new IllegalStateException();
    }

    static int depthAt(Node t, int position) {
        if (position == 0) return 0;
        int here = t.kind == ABS ? 1 : 0;
        int start = 1;
        for (Node part : t.parts) {
            if (position < start + part.size) return here + depthAt(part, position - start);
            start += part.size;
        }
        throw new IllegalStateException();
    }

    static List<Integer> redexes(Node t) {
        List<Integer> list = new ArrayList<>();
        addRedexes(t, 0, list);
        return list;
    }

    static void addRedexes(Node t, int position, List<Integer> list) {
        if (isRedex(t)) list.add(position);
        int start = position + 1;
        for (Node part : t.parts) {
            addRedexes(part, start, list);
            start += part.size;
        }
    }

    static int choose(Node t, int strategy) {
        List<Integer> all = redexes(t);
        if (all.isEmpty()) return NONE;
        if (strategy == 0) return all.get(0);
        if (strategy == 2) return all.get(all.size() - 1);
        for (int p : all) {
            if (strategy == 1) {
                if (redexes(subtermAt(t, p)).size() == 1) return p;
            } else {
                boolean head = true;
                for (int token : tokens(t).subList(0, p)) head &= token == 1000;
                if (head) return p;
            }
        }
        return NONE;
    }

    /** The next term of a run, or null if the run ends here. */
    static Node next(Node t, int strategy) {
        int p = choose(t, strategy);
        if (p == NONE) return null;
        Node u = contractAt(t, p);
        return u.size > 200 ? null : u;
    }

    static int lastSteps;

    static Node runTo(Node t, int strategy, int limit) {
        lastSteps = 0;
        while (lastSteps < limit) {
            Node u = next(t, strategy);
            if (u == null) break;
            t = u;
            lastSteps++;
        }
        return t;
    }

    static Node normal(Node t) {
        Node u = runTo(t, 0, 200);
        return redexes(u).isEmpty() ? u : null;
    }

    static Node replaceFree(Node t, int j, Node by, int depth) {
        if (t.kind == VAR) return t.value - depth == j ? shift(by, depth, 0) : t;
        if (t.kind == ABS) return abs(replaceFree(t.parts[0], j, by, depth + 1));
        return app(replaceFree(t.parts[0], j, by, depth), replaceFree(t.parts[1], j, by, depth));
    }

    // ---- the machine with explicit substitutions

    static int lastRule;

    static Node ruleHere(Node t, boolean merging) {
        if (isRedex(t)) {
            lastRule = 0;
            return clo(t.parts[0].parts[0], List.of(t.parts[1]), 0);
        }
        if (t.kind != CLO) return null;
        Node body = t.parts[0];
        List<Node> old = entries(t);
        if (body.kind == APP) {
            lastRule = 1;
            return app(clo(body.parts[0], old, t.value), clo(body.parts[1], old, t.value));
        }
        if (body.kind == ABS) {
            lastRule = 2;
            List<Node> fresh = new ArrayList<>();
            fresh.add(var(0));
            for (Node e : old) fresh.add(clo(e, List.of(), 1));
            return abs(clo(body.parts[0], fresh, t.value + 1));
        }
        if (body.kind == VAR) {
            lastRule = 3;
            int n = old.size();
            return body.value < n ? old.get(body.value) : var(body.value - n + t.value);
        }
        return merging ? merge(t, body, old) : null;
    }

    static Node merge(Node outer, Node inner, List<Node> b) {
        lastRule = 4;
        int m = b.size();
        int j = outer.value;
        int k = inner.value;
        List<Node> fresh = new ArrayList<>();
        for (Node a : entries(inner)) fresh.add(clo(a, b, j));
        if (k < m) fresh.addAll(b.subList(k, m));
        return clo(inner.parts[0], fresh, k < m ? j : k - m + j);
    }

    static Node machineStep(Node t, boolean merging) {
        Node here = ruleHere(t, merging);
        if (here != null) return here;
        for (int i = 0; i < t.parts.length; i++) {
            Node part = machineStep(t.parts[i], merging);
            if (part != null) {
                Node[] parts = t.parts.clone();
                parts[i] = part;
                return new Node(t.kind, t.value, parts);
            }
        }
        return null;
    }

    /** The counts of the five rules and then the peak, or null if the machine gives up. */
    static int[] machine(Node t, boolean merging) {
        int[] answer = new int[6];
        answer[5] = t.size;
        for (int steps = 0; ; steps++) {
            Node u = machineStep(t, merging);
            if (u == null) return answer;
            if (steps == 600 || u.size > 300) return null;
            answer[lastRule]++;
            answer[5] = Math.max(answer[5], u.size);
            t = u;
        }
    }

    // ---- the model of an object

    static final class Model {
        Node term = var(0);
        String text = "";
        Node[] slots = new Node[2];
        List<Node> remembered = new ArrayList<>();
        List<int[]> observed = new ArrayList<>();
        long seed = 0;
        int at;

        int act(Node t) {
            remembered.add(term);
            if (remembered.size() > 14) remembered.remove(0);
            term = t;
            return t.size;
        }

        /** Reads one term from the text at 'at'; null if the text ends or is wrong, with 'at' there. */
        Node parse() {
            if (at >= text.length()) return null;
            char c = text.charAt(at);
            if (c >= '0' && c <= '9') { at++; return var(c - '0'); }
            if (c == 'L') { at++; Node b = parse(); return b == null ? null : abs(b); }
            if (c == '@') {
                at++;
                Node f = parse();
                Node a = f == null ? null : parse();
                return a == null ? null : app(f, a);
            }
            return null;
        }

        long call(String name, long a, long b) {
            int i = (int) a;
            int j = (int) b;
            boolean strategy = i >= 0 && i <= 3;
            switch (name) {
                case "append":
                    if (i < 0 || i > 255) return -2;
                    if (text.length() == 60) return -4;
                    text += (char) i;
                    return text.length();
                case "clearText": { int n = text.length(); text = ""; return n; }
                case "errorPosition": {
                    at = 0;
                    Node t = parse();
                    return t != null && at == text.length() ? NONE : at;
                }
                case "load": {
                    at = 0;
                    Node t = parse();
                    if (t == null || at < text.length()) return -3;
                    term = t;
                    remembered.clear();
                    slots = new Node[2];
                    return t.size;
                }
                case "size": return term.size;
                case "tokenAt": return i < 0 || i >= term.size ? -1 : tokens(term).get(i);
                case "nameAt": return name(i);
                case "redexCount": return redexes(term).size();
                case "chosenRedex": return strategy ? choose(term, i) : -2;
                case "freeVariables": return free();
                case "step": {
                    if (!strategy) return -2;
                    if (choose(term, i) == NONE) return -3;
                    Node t = next(term, i);
                    return t == null ? -4 : act(t);
                }
                case "run": {
                    if (!strategy || j < 1 || j > 50) return -2;
                    Node t = runTo(term, i, j);
                    act(t);
                    return lastSteps;
                }
                case "abstractTerm": return term.size == 200 ? -4 : act(abs(term));
                default: return callMore(name, i, j, b);
            }
        }

        long callMore(String name, int i, int j, long script) {
            boolean slot = i == 0 || i == 1;
            boolean strategy = i >= 0 && i <= 3;
            switch (name) {
                case "applyTo":
                    if (!slot) return -1;
                    if (slots[i] == null) return -3;
                    return term.size + slots[i].size + 1 > 200 ? -4 : act(app(term, slots[i]));
                case "substitute": {
                    if (j != 0 && j != 1) return -1;
                    if (i < 0 || i > 9) return -2;
                    if (slots[j] == null) return -3;
                    Node t = replaceFree(term, i, slots[j], 0);
                    return t.size > 200 ? -4 : act(t);
                }
                case "undo":
                    if (remembered.isEmpty()) return -3;
                    term = remembered.remove(remembered.size() - 1);
                    return remembered.size();
                case "stepsOfRun":
                    if (!strategy || j < 0 || j > 200) return -2;
                    runTo(term, i, j);
                    return lastSteps;
                case "sizeAfterRun":
                    return !strategy || j < 0 || j > 200 ? -2 : runTo(term, i, j).size;
                case "normalSize": { Node t = normal(term); return t == null ? NONE : t.size; }
                case "normalTokenAt": {
                    Node t = normal(term);
                    return t == null ? NONE : i < 0 || i >= t.size ? -1 : tokens(t).get(i);
                }
                case "isEquivalent": {
                    if (!slot) return -1;
                    if (slots[i] == null) return -3;
                    Node t = normal(term);
                    Node u = normal(slots[i]);
                    return t == null || u == null ? NONE : tokens(t).equals(tokens(u)) ? 1 : 0;
                }
                case "machineSteps": {
                    if (i < 0 || i > 4 || j < 0 || j > 1) return -2;
                    int[] m = machine(term, j == 1);
                    return m == null ? NONE : m[i];
                }
                case "machinePeak": {
                    if (!slot) return -2;
                    int[] m = machine(term, i == 1);
                    return m == null ? NONE : m[5];
                }
                case "runScript": return script(i, script);
                case "observe":
                    if (i < 0 || i > 50 || j < 1 || j > 200) return -2;
                    observed.add(new int[] {i, j});
                    if (observed.size() > 6) observed.remove(0);
                    return observed.size();
                case "forgetAfter":
                    if (i < 0 || i > 50) return -2;
                    observed.removeIf(o -> o[0] > i);
                    return observed.size();
                case "possibleStrategies": return possible();
                case "setSeed": { long old = seed; seed = script; return old; }
                case "randomReduction": return i < 1 || i > 30 ? -2 : random(i);
                case "save":
                    if (!slot) return -1;
                    slots[i] = term;
                    return term.size;
                case "restore":
                    if (!slot) return -1;
                    if (slots[i] == null) return -3;
                    term = slots[i];
                    remembered.clear();
                    return term.size;
                default: throw new IllegalStateException(name);
            }
        }

        int name(int position) {
            if (position < 0 || position >= term.size) return -1;
            Node t = subtermAt(term, position);
            if (t.kind == APP) return NONE;
            int depth = depthAt(term, position);
            if (t.kind == ABS) return 97 + depth;
            if (t.value >= depth) return 65 + t.value - depth;
            return 97 + (depth - 1 - t.value);
        }

        int free() {
            int bits = 0;
            for (int p = 0; p < term.size; p++) {
                Node t = subtermAt(term, p);
                int depth = depthAt(term, p);
                if (t.kind == VAR && t.value >= depth) bits |= 1 << (t.value - depth);
            }
            return bits;
        }

        int possible() {
            int bits = 0;
            for (int s = 0; s < 4; s++) {
                boolean all = true;
                for (int[] o : observed) all &= runTo(term, s, o[0]).size == o[1];
                if (all) bits |= 1 << s;
            }
            return bits;
        }

        int random(int m) {
            Node t = term;
            int sum = 0;
            for (int i = 0; i < m; i++) {
                seed = seed * 6364136223846793005L + 1442695040888963407L;
                int v = (int) (seed >>> 33);
                List<Integer> r = redexes(t);
                if (!r.isEmpty()) {
                    Node u = contractAt(t, r.get(v % r.size()));
                    if (u.size <= 200) t = u;
                }
                sum += t.size;
            }
            return sum;
        }

        int script(int n, long script) {
            if (n < 1 || n > 4 || script < 0 || Long.toString(script).length() > 3 * n) return -2;
            String digits = Long.toString(script);
            while (digits.length() < 3 * n) digits = "0" + digits;
            Node t = term;
            for (int i = 0; i < n; i++) {
                String group = digits.substring(3 * i, 3 * i + 3);
                int x = group.charAt(1) - '0';
                int y = group.charAt(2) - '0';
                boolean fine = false;
                switch (group.charAt(0)) {
                    case '1': {
                        Node u = x == 0 && y <= 3 ? next(t, y) : null;
                        fine = u != null;
                        if (fine) t = u;
                        break;
                    }
                    case '2': fine = t.size == 10 * x + y; break;
                    case '3': fine = redexes(t).size() == 10 * x + y; break;
                    case '4': if (x <= 3) { runTo(t, x, 9); fine = lastSteps == y; } break;
                    case '5': fine = x == 0 && y == 0 && t.size < 200; if (fine) t = abs(t); break;
                    default: break;
                }
                if (!fine) return i;
            }
            return NONE;
        }
    }

    // ---- the runs

    static final String[] NAMES = {
        "append", "clearText", "errorPosition", "load", "size", "tokenAt", "nameAt", "redexCount", "chosenRedex",
        "freeVariables", "step", "run", "abstractTerm", "applyTo", "substitute", "undo", "stepsOfRun",
        "sizeAfterRun", "normalSize", "normalTokenAt", "isEquivalent", "machineSteps", "machinePeak", "runScript",
        "observe", "forgetAfter", "possibleStrategies", "setSeed", "randomReduction", "save", "restore"};

    static final String[] TEXTS = {
        "@L@00L@00", "@L@@000L@@000", "LL@1@10", "LL@1@1@10", "LLLL@@31@@210", "LLL@2@@210", "LL1", "L0",
        "LLL@@20@10", "@@LL101", "L@@@0LL@0LLL@2@@210LL0L0", "@LL@10@LL@10LL@10", "@@LL@1@10LL@1@100",
        "L@L@1@00L@1@00", "@L@@0LLL@2@@210LL0LL@1@1@10", "LLLLL4", "@L@0L1LL@1@9@28", "@LL@@102@34",
        "@@LL@1@1@10LL@1@10LL@1@10"};

    static long callObject(SubstitutionMachine x, String name, long a, long b) {
        int i = (int) a;
        int j = (int) b;
        switch (name) {
            case "append": return x.append(i);
            case "clearText": return x.clearText();
            case "errorPosition": return x.errorPosition();
            case "load": return x.load();
            case "size": return x.size();
            case "tokenAt": return x.tokenAt(i);
            case "nameAt": return x.nameAt(i);
            case "redexCount": return x.redexCount();
            case "chosenRedex": return x.chosenRedex(i);
            case "freeVariables": return x.freeVariables();
            case "step": return x.step(i);
            case "run": return x.run(i, j);
            case "abstractTerm": return x.abstractTerm();
            case "applyTo": return x.applyTo(i);
            case "substitute": return x.substitute(i, j);
            case "undo": return x.undo();
            case "stepsOfRun": return x.stepsOfRun(i, j);
            case "sizeAfterRun": return x.sizeAfterRun(i, j);
            case "normalSize": return x.normalSize();
            case "normalTokenAt": return x.normalTokenAt(i);
            case "isEquivalent": return x.isEquivalent(i);
            case "machineSteps": return x.machineSteps(i, j);
            case "machinePeak": return x.machinePeak(i);
            case "runScript": return x.runScript(i, b);
            case "observe": return x.observe(i, j);
            case "forgetAfter": return x.forgetAfter(i);
            case "possibleStrategies": return x.possibleStrategies();
            case "setSeed": return x.setSeed(b);
            case "randomReduction": return x.randomReduction(i);
            case "save": return x.save(i);
            case "restore": return x.restore(i);
            default: throw new IllegalStateException(name);
        }
    }

    static String randomTerm(Random r, int size, int depth) {
        if (size <= 1) return "" + (r.nextInt(8) == 0 ? r.nextInt(10) : r.nextInt(Math.min(9, depth + 1)));
        if (size == 2 || r.nextInt(5) < 2) return "L" + randomTerm(r, size - 1, depth + 1);
        int left = 1 + r.nextInt(size - 2);
        if (left > 1 && r.nextInt(2) == 0) {
            return "@L" + randomTerm(r, left - 1, depth + 1) + randomTerm(r, size - 1 - left, depth);
        }
        return "@" + randomTerm(r, left, depth) + randomTerm(r, size - 1 - left, depth);
    }

    static final int[] EDGES = {-1, 0, 1, 2, 3, 4, 5, 9, 10, 30, 31, 49, 50, 51, 199, 200, 201, 255, 256,
        Integer.MIN_VALUE, Integer.MAX_VALUE};

    static int randomArgument(Random r, String name, int size) {
        if (r.nextInt(14) == 0) return EDGES[r.nextInt(EDGES.length)];
        switch (name) {
            case "tokenAt": case "nameAt": case "normalTokenAt": return r.nextInt(size + 1);
            case "randomReduction": return 1 + r.nextInt(30);
            case "observe": return r.nextInt(r.nextBoolean() ? 4 : 51);
            case "forgetAfter": return r.nextInt(51);
            case "machineSteps": return r.nextInt(5);
            case "applyTo": case "isEquivalent": case "machinePeak": case "save": case "restore":
                return r.nextInt(2);
            case "append": return r.nextInt(20) == 0 ? r.nextInt(256) : "L@0123".charAt(r.nextInt(6));
            default: return r.nextInt(4);
        }
    }

    static long secondArgument(Random r, String name, Model m, int first) {
        switch (name) {
            case "setSeed": return r.nextLong();
            case "runScript": return randomScript(r, m, first);
            case "run": case "stepsOfRun": case "sizeAfterRun":
                return r.nextInt(8) == 0 ? EDGES[r.nextInt(EDGES.length)] : r.nextInt(r.nextBoolean() ? 5 : 52);
            case "observe":
                if (r.nextInt(8) == 0) return EDGES[r.nextInt(EDGES.length)];
                return runTo(m.term, r.nextInt(4), Math.max(0, Math.min(first, 50))).size;
            default: return r.nextInt(14) == 0 ? EDGES[r.nextInt(EDGES.length)] : r.nextInt(2);
        }
    }

    static long randomScript(Random r, Model m, int n) {
        if (r.nextInt(10) == 0) return r.nextLong();
        if (r.nextInt(10) == 0) return r.nextInt(1001);
        long script = 0;
        Node t = m.term;
        for (int i = 0; i < Math.min(n, 4); i++) {
            int s = r.nextInt(5) == 0 ? r.nextInt(10) : r.nextInt(4);
            int group = r.nextInt(1000);
            switch (r.nextInt(11)) {
                case 0: case 1: case 2: {
                    group = 100 + s;
                    Node u = s < 4 ? next(t, s) : null;
                    if (u != null) t = u;
                    break;
                }
                case 3: case 4: group = 200 + t.size % 100; break;
                case 5: case 6: group = 300 + redexes(t).size(); break;
                case 7: case 8: {
                    if (s < 4) runTo(t, s, 9);
                    group = 400 + 10 * s + lastSteps % 10;
                    break;
                }
                case 9: group = 500; t = abs(t); break;
                default: break;
            }
            script = script * 1000 + group;
        }
        return script;
    }

    static int wrong = 0;
    static int calls;

    static boolean compare(int run, SubstitutionMachine x, Model m, String name, long a, long b) {
        calls++;
        long want = m.call(name, a, b);
        long got = callObject(x, name, a, b);
        if (got == want) return true;
        wrong++;
        System.out.println("run " + run + ", call " + calls + ": " + name + "(" + a + ", " + b + ") answered " + got
            + ", due is " + want + " with the term " + tokens(m.term));
        return false;
    }

    static boolean loadText(int run, Random r, SubstitutionMachine x, Model m) {
        boolean fine = compare(run, x, m, "clearText", 0, 0);
        String s = r.nextInt(3) == 0 ? TEXTS[r.nextInt(TEXTS.length)] : randomTerm(r, 1 + r.nextInt(r.nextBoolean() ? 15 : 45), 0);
        if (r.nextInt(12) == 0) s = s.substring(0, r.nextInt(s.length() + 1)) + (char) r.nextInt(256);
        for (int i = 0; i < s.length() && fine; i++) fine = compare(run, x, m, "append", s.charAt(i), 0);
        return fine && compare(run, x, m, "load", 0, 0);
    }

    /** The document tells nothing of an object after its 512th call. */
    static final int MOST_CALLS = 512;

    /** Asks for the whole term, but seldom enough to leave calls for all else. */
    static boolean sameTokens(int run, SubstitutionMachine x, Model m, Random r) {
        List<Integer> due = tokens(m.term);
        if (r.nextInt(1 + due.size() / 2) != 0 || calls + 1 + due.size() > MOST_CALLS) return true;
        calls += 1 + due.size();
        boolean same = x.size() == due.size();
        for (int i = 0; i < due.size() && same; i++) same = x.tokenAt(i) == due.get(i);
        if (!same) {
            wrong++;
            System.out.println("run " + run + ", after call " + calls + ": the term is not " + due);
        }
        return same;
    }

    static void oneRun(int run) {
        Random r = new Random(run);
        SubstitutionMachine x = new SubstitutionMachine();
        Model m = new Model();
        calls = 0;
        boolean fine = run % 4 == 0 || loadText(run, r, x, m);
        while (calls < MOST_CALLS && fine) {
            if (r.nextInt(60) == 0 && calls < MOST_CALLS - 70) fine = loadText(run, r, x, m);
            String name = NAMES[r.nextInt(NAMES.length)];
            boolean loses = name.equals("load") || name.equals("clearText") || name.equals("restore");
            if (loses && r.nextInt(3) != 0) continue;
            int a = randomArgument(r, name, m.term.size);
            long b = secondArgument(r, name, m, a);
            fine = fine && compare(run, x, m, name, a, b) && sameTokens(run, x, m, r);
        }
    }

    public static void main(String[] args) {
        int runs = args.length > 0 ? Integer.parseInt(args[0]) : 400;
        for (int run = 1; run <= runs && wrong < 20; run++) oneRun(run);
        System.out.println(wrong == 0 ? runs + " runs are as the model's" : wrong + " runs are not as the model's");
        if (wrong != 0) System.exit(1);
    }
}
