import java.io.IOException;
import java.lang.reflect.Constructor;
import java.lang.reflect.Field;
import java.lang.reflect.Method;
import java.lang.reflect.Modifier;
import java.nio.charset.StandardCharsets;
import java.nio.file.Files;
import java.nio.file.Path;
import java.util.Set;
import java.util.TreeSet;
import java.util.regex.Matcher;
import java.util.regex.Pattern;

/** The class has the document's face and no more, and its source keeps the rules that a look at it can tell. */
public final class FaceAndLanguage {
    private static final String[] METHODS = {
        "int append(int)", "int clearText()", "int errorPosition()", "int load()", "int size()", "int tokenAt(int)",
        "int nameAt(int)", "int redexCount()", "int chosenRedex(int)", "int freeVariables()", "int step(int)",
        "int run(int,int)", "int abstractTerm()", "int applyTo(int)", "int substitute(int,int)", "int undo()",
        "int stepsOfRun(int,int)", "int sizeAfterRun(int,int)", "int normalSize()", "int normalTokenAt(int)",
        "int isEquivalent(int)", "int machineSteps(int,int)", "int machinePeak(int)", "int runScript(int,long)",
        "int observe(int,int)", "int forgetAfter(int)", "int possibleStrategies()", "long setSeed(long)",
        "int randomReduction(int)", "int save(int)", "int restore(int)"};
    private static final String[] CONSTANTS = {
        "NO_SUCH_INDEX=-1", "BAD_VALUE=-2", "NOT_POSSIBLE=-3", "FULL=-4", "NONE=-9", "APPLICATION=1000",
        "ABSTRACTION=1001", "LEFTMOST_OUTERMOST=0", "LEFTMOST_INNERMOST=1", "RIGHTMOST=2", "WEAK_HEAD=3"};
    private static final String[] BARRED = {
        "throw", "throws", "try", "catch", "finally", "synchronized", "assert", "import", "package", "native",
        "volatile", "transient", "protected", "Object", "float", "double", "hashCode", "toString"};
    private static int wrong = 0;

    private static void due(String what, boolean holds) {
        if (!holds) {
            wrong++;
            System.out.println("not as due: " + what);
        }
    }

    private static String signature(Method m) {
        StringBuilder out = new StringBuilder(m.getReturnType() + " " + m.getName() + "(");
        for (Class<?> p : m.getParameterTypes()) out.append(out.charAt(out.length() - 1) == '(' ? "" : ",").append(p);
        return out.append(")").toString();
    }

    private static void face() throws IllegalAccessException {
        Class<?> c = SubstitutionMachine.class;
        due("the class is public and final", Modifier.isPublic(c.getModifiers()) && Modifier.isFinal(c.getModifiers()));
        Set<String> found = new TreeSet<>();
        for (Method m : c.getDeclaredMethods()) {
            if (Modifier.isPublic(m.getModifiers()) && !Modifier.isStatic(m.getModifiers())) found.add(signature(m));
            else due(m + " is private", Modifier.isPrivate(m.getModifiers()));
        }
        due("the methods are " + found, found.equals(new TreeSet<>(Set.of(METHODS))));
        Set<String> constants = new TreeSet<>();
        for (Field f : c.getDeclaredFields()) {
            if (Modifier.isPublic(f.getModifiers())) constants.add(f.getName() + "=" + f.getInt(null));
            else due(f + " is private", Modifier.isPrivate(f.getModifiers()));
            if (Modifier.isStatic(f.getModifiers())) due(f + " is final", Modifier.isFinal(f.getModifiers()));
        }
        due("the constants are " + constants, constants.equals(new TreeSet<>(Set.of(CONSTANTS))));
        Constructor<?>[] constructors = c.getDeclaredConstructors();
        due("one public constructor without parameters", constructors.length == 1
            && Modifier.isPublic(constructors[0].getModifiers()) && constructors[0].getParameterCount() == 0);
        nested(c);
    }

    private static void small(Class<?> c) {
        int fields = 0;
        for (Field f : c.getDeclaredFields()) fields += Modifier.isStatic(f.getModifiers()) ? 0 : 1;
        due(c + " has some twenty fields", fields <= 20);
        for (Method m : c.getDeclaredMethods()) due(m + " has at most seven parameters", m.getParameterCount() <= 7);
    }

    private static void nested(Class<?> c) {
        small(c);
        due("some twelve classes", c.getDeclaredClasses().length <= 11);
        for (Class<?> n : c.getDeclaredClasses()) {
            small(n);
            int m = n.getModifiers();
            due(n + " is static", Modifier.isStatic(m));
            due(n + " is hidden", !Modifier.isPublic(m) && !Modifier.isProtected(m));
            for (Method method : n.getDeclaredMethods()) {
                due(method + " has a name of its own", !publicName(method.getName()));
            }
        }
    }

    private static boolean publicName(String name) {
        for (String m : METHODS) {
            if (m.contains(" " + name + "(")) return true;
        }
        return false;
    }

    private static void source() throws IOException {
        String text = Files.readString(Path.of("src/main/java/SubstitutionMachine.java"), StandardCharsets.US_ASCII);
        String code = text.replaceAll("(?s)/\\*.*?\\*/", "").replaceAll("//[^\n]*", "");
        for (String word : BARRED) {
            Matcher m = Pattern.compile("\\b" + word + "\\b").matcher(code);
            due("no " + word + " in the source", !m.find());
        }
        due("no lambda and no method reference", !code.contains("->") && !code.contains("::"));
        // A room is shared by all calls of a run, so the rows are made with the object and by no call.
        Matcher made = Pattern.compile("\n( +)([^\n]*)\\bnew ").matcher(code);
        while (made.find()) {
            due("rows made as fields only: " + made.group(2), made.group(2).startsWith("private "));
        }
    }

    public static void main(String[] args) throws IOException, IllegalAccessException {
        face();
        source();
        System.out.println(wrong == 0 ? "the face and the source are as due" : wrong + " things are not as due");
        if (wrong != 0) System.exit(1);
    }
}
