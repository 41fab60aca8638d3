import java.lang.reflect.InvocationTargetException;
import java.lang.reflect.Method;
import java.nio.file.Files;
import java.nio.file.Path;
import java.util.TreeSet;
import java.util.regex.Matcher;
import java.util.regex.Pattern;

/** README.md shows every method of the face, and each call in it answers what stands beside it. */
public final class ReadmeTest {
    private static final Path README = Path.of("README.md");
    /** As: tables.look(1); // 64: squares of the board */
    private static final Pattern CALL =
            Pattern.compile("(?m)^tables\\.(\\w+)\\(([^)]*)\\);\\s*// (-?\\d+):");

    public static void main(String[] args) throws Exception {
        Answers answers = new Answers();
        String text = Files.readString(README);
        EndTables tables = new EndTables(8);
        TreeSet<String> shown = new TreeSet<>();
        Matcher call = CALL.matcher(text);
        while (call.find()) {
            shown.add(call.group(1));
            answers.due(call.group(), answerOf(tables, call.group(1), call.group(2)), call.group(3));
        }
        TreeSet<String> face = new TreeSet<>();
        for (Method method : EndTables.class.getMethods()) {
            if (method.getDeclaringClass() == EndTables.class) {
                face.add(method.getName());
            }
        }
        answers.due("methods shown", shown.toString(), face.toString());
        answers.due("it says how to run the tests", "" + text.contains("\n.ci/run\n"), "true");
        for (String file : Path.of("src/test/java").toFile().list()) {
            if (file.endsWith("Test.java")) {
                String name = "`" + file.replace(".java", "") + "`";
                answers.due("it tells of " + name, "" + text.contains(name), "true");
            }
        }
        answers.end("ReadmeTest");
    }

    private static String answerOf(EndTables tables, String name, String arguments)
            throws IllegalAccessException, InvocationTargetException {
        String[] words = arguments.split(", ");
        Object[] values = new Object[words.length];
        for (int k = 0; k < words.length; k++) {
            boolean isSide = words[k].equals("true") || words[k].equals("false");
            values[k] = isSide ? (Object) Boolean.valueOf(words[k]) : Integer.valueOf(words[k]);
        }
        for (Method method : EndTables.class.getMethods()) {
            if (method.getName().equals(name) && method.getParameterCount() == values.length) {
                return method.invoke(tables, values).toString();
            }
        }
        return "no such method";
    }
}
