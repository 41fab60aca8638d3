import java.lang.reflect.Constructor;
import java.lang.reflect.Field;
import java.lang.reflect.Method;
import java.lang.reflect.Modifier;
import java.nio.file.Files;
import java.nio.file.Path;
import java.util.Arrays;
import java.util.List;
import java.util.TreeSet;
import java.util.regex.Matcher;
import java.util.regex.Pattern;

/** The face is the document's, and the rules of LANGUAGE.md that a look at the text can test. */
public final class LanguageTest {
    private static final Path SOURCE = Path.of("src/main/java/EndTables.java");
    private static final List<String> FORBIDDEN = List.of("->", "::", "\\btry\\b", "\\bcatch\\b",
            "\\bfinally\\b", "\\bsynchronized\\b", "\\bassert\\b", "\\bprotected\\b", "\\bpackage\\b",
            "Exact\\(", "static\\s*\\{", "\\bSystem\\.(?!arraycopy\\b)", "\\bRandom\\b", "\\bThread\\b",
            "\\bObjects\\b", "\\bdouble\\b", "\\bfloat\\b", "[^\\x00-\\xff]");

    public static void main(String[] args) throws Exception {
        Answers answers = new Answers();
        face(answers);
        String text = Files.readString(SOURCE);
        String code = text.replaceAll("(?s)/\\*.*?\\*/", "").replaceAll("//[^\n]*", "")
                .replaceAll("\"[^\"\n]*\"", "\"\"");
        for (String pattern : FORBIDDEN) {
            Matcher found = Pattern.compile(pattern).matcher(code);
            answers.due("in the source: " + pattern, found.find() ? found.group() : "", "");
        }
        Matcher imports = Pattern.compile("import ([\\w.]+);").matcher(code);
        while (imports.find()) {
            answers.due("import", imports.group(1), "java.util.Arrays");
        }
        answers.end("LanguageTest");
    }

    private static void face(Answers answers) {
        Class<?> type = EndTables.class;
        TreeSet<String> methods = new TreeSet<>();
        TreeSet<String> names = new TreeSet<>();
        for (Method method : type.getDeclaredMethods()) {
            if (!Modifier.isPrivate(method.getModifiers()) && !method.isSynthetic()) {
                methods.add(describe(method));
                names.add(method.getName());
            }
        }
        String position = "int, int, int, int, boolean";
        answers.due("methods", methods.toString(), new TreeSet<>(List.of(
                "public int distance(" + position + ")", "public int moves(" + position + ")",
                "public int best(" + position + ")", "public int play(" + position + ", int)",
                "public int line(int)", "public int count(int, boolean, int)",
                "public int longest(int)", "public int attacks(int, int, int, int, int)",
                "public int look(int)")).toString());
        for (Field field : type.getDeclaredFields()) {
            if (!Modifier.isPrivate(field.getModifiers())) {
                answers.due("field", Modifier.toString(field.getModifiers()) + " " + field.getName(),
                        "public static final NONE");
            }
        }
        for (Constructor<?> constructor : type.getDeclaredConstructors()) {
            answers.due("constructor", constructor.toString(), "public EndTables(int)");
        }
        answers.due("the class", Modifier.toString(type.getModifiers()), "public final");
        for (Class<?> inside : type.getDeclaredClasses()) {
            answers.due(inside.getName() + " is static",
                    Modifier.isStatic(inside.getModifiers()) ? "yes" : "no", "yes");
            for (Method method : inside.getDeclaredMethods()) {
                answers.due(method + " bears a public name",
                        names.contains(method.getName()) ? "yes" : "no", "no");
                answers.due(method + " takes at most seven",
                        method.getParameterCount() <= 7 ? "yes" : "no", "yes");
            }
        }
    }

    private static String describe(Method method) {
        String types = Arrays.toString(method.getParameterTypes());
        return Modifier.toString(method.getModifiers()) + " " + method.getReturnType() + " "
                + method.getName() + "(" + types.substring(1, types.length() - 1) + ")";
    }
}
