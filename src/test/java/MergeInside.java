import java.lang.reflect.Constructor;
import java.lang.reflect.Field;
import java.lang.reflect.Method;
import java.util.ArrayList;
import java.util.List;

/**
 * The rule MERGE on closures that are written into the machine by hand. No run of calls was ever seen to reach a MERGE
 * with k less than m, so this test goes past the public face; if the inside of the class is renamed, change it here.
 */
public final class MergeInside {
    private static final int APPLICATION = 1000, ABSTRACTION = 1001, CLOSURE = 1002;
    private static final int MERGE = 4;

    /** An extended term in prefix order: each token with its number of entries and its shift. */
    private static final class Row {
        private final List<int[]> cells = new ArrayList<>();

        Row token(int token) {
            cells.add(new int[] {token, 0, 0});
            return this;
        }

        Row closure(int entries, int shift) {
            cells.add(new int[] {CLOSURE, entries, shift});
            return this;
        }

        Row all(Row other) {
            cells.addAll(other.cells);
            return this;
        }

        String shown() {
            StringBuilder out = new StringBuilder();
            for (int[] c : cells) {
                out.append(c[0] == CLOSURE ? "<" + c[1] + "," + c[2] + ">" : c[0] == APPLICATION ? "@"
                    : c[0] == ABSTRACTION ? "L" : "" + c[0]).append(' ');
            }
            return out.toString();
        }
    }

    /** Entries differ in length and in kind, so that a wrong border between two of them shows. */
    private static Row[] entries(int count, int firstIndex) {
        Row[] rows = new Row[count];
        for (int i = 0; i < count; i++) {
            Row variable = new Row().token(firstIndex + i);
            switch (i % 4) {
                case 0:
                    rows[i] = variable;
                    break;
                case 1:
                    rows[i] = new Row().token(APPLICATION).all(variable).token(7);
                    break;
                case 2:
                    rows[i] = new Row().closure(2, 3).token(8).all(variable).token(9);
                    break;
                default:
                    rows[i] = new Row().token(ABSTRACTION).all(variable);
                    break;
            }
        }
        return rows;
    }

    private static Row joined(Row[] rows, int from) {
        Row all = new Row();
        for (int i = from; i < rows.length; i++) all.all(rows[i]);
        return all;
    }

    private static Row before(Row body, Row[] a, int k, Row[] b, int j) {
        return new Row().closure(b.length, j).closure(a.length, k).all(body).all(joined(a, 0)).all(joined(b, 0));
    }

    private static Row due(Row body, Row[] a, int k, Row[] b, int j) {
        int m = b.length;
        Row result = new Row();
        if (k < m) result.closure(a.length + m - k, j);
        else result.closure(a.length, k - m + j);
        result.all(body);
        for (Row entry : a) result.closure(m, j).all(entry).all(joined(b, 0));
        return k < m ? result.all(joined(b, k)) : result;
    }

    private static Method open(Class<?> c, String name, Class<?>... types) throws ReflectiveOperationException {
        Method m = c.getDeclaredMethod(name, types);
        m.setAccessible(true);
        return m;
    }

    private static Object presentOf(Object machine) throws ReflectiveOperationException {
        Field f = machine.getClass().getDeclaredField("present");
        f.setAccessible(true);
        return f.get(machine);
    }

    private static void write(Object extended, Row row) throws ReflectiveOperationException {
        Method put = open(extended.getClass(), "put", int.class, int.class, int.class);
        for (int[] c : row.cells) put.invoke(extended, c[0], c[1], c[2]);
    }

    private static Row read(Object extended) throws ReflectiveOperationException {
        Class<?> c = extended.getClass();
        int length = (int) open(c, "length").invoke(extended);
        Row row = new Row();
        for (int i = 0; i < length; i++) {
            row.cells.add(new int[] {(int) open(c, "token", int.class).invoke(extended, i),
                (int) open(c, "entriesAt", int.class).invoke(extended, i),
                (int) open(c, "shiftAt", int.class).invoke(extended, i)});
        }
        return row;
    }

    /** The extended term that one step with merging makes of the given one. */
    private static Row stepped(Row row) throws ReflectiveOperationException {
        Class<?> c = Class.forName("SubstitutionMachine$Machine");
        Constructor<?> make = c.getDeclaredConstructor();
        make.setAccessible(true);
        Object machine = make.newInstance();
        write(presentOf(machine), row);
        int position = (int) open(c, "firstPlace", boolean.class).invoke(machine, true);
        int rule = (int) open(c, "ruleAt", int.class, boolean.class).invoke(machine, position, true);
        Check.due("the rule at " + position + " of " + row.shown(), rule, MERGE);
        open(c, "rewrite", int.class, int.class).invoke(machine, position, rule);
        return read(presentOf(machine));
    }

    private static void merge(int n, int k, int m, int j) throws ReflectiveOperationException {
        Row[] a = entries(n, 10);
        Row[] b = entries(m, 20);
        Row body = new Row().token(ABSTRACTION).token(APPLICATION).token(0).token(1);
        Row alone = before(body, a, k, b, j);
        Check.dueText("what MERGE makes of " + alone.shown(), stepped(alone).shown(), due(body, a, k, b, j).shown());
        // The same inside a term: what stands before and behind the closure stays.
        Row inside = new Row().token(ABSTRACTION).token(APPLICATION).all(alone).token(6);
        Row result = new Row().token(ABSTRACTION).token(APPLICATION).all(due(body, a, k, b, j)).token(6);
        Check.dueText("what MERGE makes of " + inside.shown(), stepped(inside).shown(), result.shown());
    }

    private static void merges(boolean outerEntriesStay) throws ReflectiveOperationException {
        for (int n = 0; n <= 4; n++) {
            for (int k = 0; k <= 5; k++) {
                for (int m = 0; m <= 5; m++) {
                    for (int j = 0; j <= 2; j++) {
                        if (k < m == outerEntriesStay) merge(n, k, m, j);
                    }
                }
            }
        }
    }

    public static void main(String[] args) throws ReflectiveOperationException {
        Check.says("Description", "Its entries are, for each a in order, the closure with body a, the entries b0, ..., bm-1"
            + " and shift j; then, if k is less than m, the entries bk, ..., bm-1.");
        merges(true);
        Check.says("Description", "Its shift is j if k is less than m, and otherwise k - m + j.");
        merges(false);
        Check.finish();
    }
}
