import java.io.IOException;
import java.lang.reflect.Field;
import java.lang.reflect.InvocationTargetException;
import java.lang.reflect.Method;
import java.lang.reflect.Modifier;
import java.nio.charset.StandardCharsets;
import java.nio.file.Files;
import java.nio.file.Path;
import java.util.regex.Matcher;
import java.util.regex.Pattern;

/** README.md tells the truth: its example is carried out, call by call, and it names the whole face. */
public final class ReadmeTests {
    private static final Pattern TEXT = Pattern.compile("\"([^\"]*)\"\\.toCharArray\\(\\)");
    private static final Pattern CALL = Pattern.compile("(?m)^x\\.(\\w+)\\((.*)\\);[ ]*(.*)$");
    private static final Pattern ANSWER = Pattern.compile("// (-?\\d+)\\b.*");
    private static int asked = 0;
    private static int wrong = 0;

    private static void due(String what, boolean holds) {
        asked++;
        if (!holds) {
            wrong++;
            System.out.println("not as due: " + what);
        }
    }

    private static String example(String readme) {
        int start = readme.indexOf("```java\n");
        int end = start < 0 ? -1 : readme.indexOf("\n```\n", start);
        due("there is an example", end >= 0);
        return end < 0 ? "" : readme.substring(start, end);
    }

    private static void runExample(String example) throws IllegalAccessException, InvocationTargetException {
        SubstitutionMachine x = new SubstitutionMachine();
        Matcher text = TEXT.matcher(example);
        due("the example types a text", text.find());
        for (char c : text.group(1).toCharArray()) x.append(c);
        int calls = 0;
        Matcher call = CALL.matcher(example);
        while (call.find()) {
            Matcher answer = ANSWER.matcher(call.group(3));
            if (answer.matches()) {
                long got = answerOf(x, call.group(1), call.group(2));
                due(call.group() + " answers " + got, got == Long.parseLong(answer.group(1)));
            } else {
                due(call.group() + " tells its answer", false);
            }
            calls++;
        }
        due("every line of the example that is a call was carried out", calls == example.split("\nx\\.").length - 1);
    }

    private static long answerOf(SubstitutionMachine x, String name, String arguments)
            throws IllegalAccessException, InvocationTargetException {
        Method method = methodNamed(name);
        String[] words = arguments.isEmpty() ? new String[0] : arguments.split(", ");
        Class<?>[] types = method.getParameterTypes();
        Object[] values = new Object[words.length];
        for (int i = 0; i < words.length; i++) {
            long value = valueOf(words[i]);
            if (types[i] == long.class) values[i] = value;
            else values[i] = Math.toIntExact(value);
        }
        return ((Number) method.invoke(x, values)).longValue();
    }

    private static Method methodNamed(String name) {
        for (Method m : SubstitutionMachine.class.getDeclaredMethods()) {
            if (Modifier.isPublic(m.getModifiers()) && m.getName().equals(name)) return m;
        }
        throw new IllegalStateException("README.md calls " + name + ", which is no method of the face");
    }

    private static long valueOf(String word) throws IllegalAccessException {
        for (Field f : SubstitutionMachine.class.getDeclaredFields()) {
            if (Modifier.isPublic(f.getModifiers()) && word.equals("SubstitutionMachine." + f.getName())) {
                return f.getInt(null);
            }
        }
        return Long.parseLong(word.endsWith("L") ? word.substring(0, word.length() - 1) : word);
    }

    private static void namesTheFace(String readme) throws IllegalAccessException {
        for (Method m : SubstitutionMachine.class.getDeclaredMethods()) {
            if (!Modifier.isPublic(m.getModifiers())) continue;
            String arguments = "[a-z]+" + ", [a-z]+".repeat(Math.max(m.getParameterCount() - 1, 0));
            String call = "`" + m.getName() + "\\(" + (m.getParameterCount() == 0 ? "" : arguments) + "\\)`";
            due("README.md names " + m.getName(), Pattern.compile(call).matcher(readme).find());
        }
        for (Field f : SubstitutionMachine.class.getDeclaredFields()) {
            if (!Modifier.isPublic(f.getModifiers())) continue;
            String constant = "`" + f.getName() + "` " + f.getInt(null) + "\\b";
            due("README.md names " + f.getName(), Pattern.compile(constant).matcher(readme).find());
        }
    }

    private static void namesTheTests(String readme) throws IOException {
        try (var files = Files.newDirectoryStream(Path.of("src/test/java"), "*.java")) {
            for (Path file : files) {
                String name = file.getFileName().toString().replace(".java", "");
                due("README.md names the test " + name, readme.contains("`" + name + "`"));
            }
        }
        due("README.md says how to run the tests", readme.contains("`.ci/run`"));
    }

    public static void main(String[] args) throws IOException, IllegalAccessException, InvocationTargetException {
        String readme = Files.readString(Path.of("README.md"), StandardCharsets.UTF_8);
        runExample(example(readme));
        namesTheFace(readme);
        namesTheTests(readme);
        System.out.println(asked + " things that README.md says, " + wrong + " not as due");
        if (wrong != 0) System.exit(1);
    }
}
