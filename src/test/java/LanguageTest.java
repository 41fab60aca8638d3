import java.lang.reflect.Constructor;
import java.lang.reflect.Field;
import java.lang.reflect.Method;
import java.lang.reflect.Modifier;
import java.nio.file.Files;
import java.nio.file.Path;
import java.util.Arrays;
import java.util.List;
import java.util.Set;
import java.util.TreeSet;
import java.util.regex.Matcher;
import java.util.regex.Pattern;

/** The face is the document's, and the rules of LANGUAGE.md that a look at the text can test. */
public final class LanguageTest {
    private static final Path SOURCE = Path.of("src/main/java/EndTables.java");
    private static final List<String> FORBIDDEN = List.of("->", "::", "\\btry\\b", "\\bcatch\\b",
            "\\bfinally\\b", "\\bsynchronized\\b", "\\bassert\\b", "\\bprotected\\b", "\\bpackage\\b",
            "Exact\\(", "static\\s*\\{", "\\bSystem\\.(?!arraycopy\\b)", "\\bRandom\\b", "\\bThread\\b",
            "\\bObjects\\b", "\\bdouble\\b", "\\bfloat\\b", "[^\\x00-\\xff]");

    public static void main(String[] args) throws Exception {
        Answers answers = new Answers();
        face(answers);
        members(answers);
        String text = Files.readString(SOURCE);
        String code = text.replaceAll("(?s)/\\*.*?\\*/", "").replaceAll("//[^\n]*", "")
                .replaceAll("\"[^\"\n]*\"", "\"\"");
        for (String pattern : FORBIDDEN) {
            Matcher found = Pattern.compile(pattern).matcher(code);
            answers.due("in the source: " + pattern, found.find() ? found.group() : "", "");
        }
        Matcher imports = Pattern.compile("import ([\\w.]+);").matcher(code);
        while (imports.find()) {
            answers.due("import", imports.group(1), "java.util.Arrays");
        }
        answers.end("LanguageTest");
    }

    /** "The public face": what is not private is as the document's code block has it. */
    private static void face(Answers answers) throws IllegalAccessException {
        Class<?> type = EndTables.class;
        answers.due("the class", Modifier.toString(type.getModifiers()), "public final");
        answers.due("what it is", type.getSuperclass() + Arrays.toString(type.getInterfaces()),
                Object.class + "[]");
        TreeSet<String> methods = new TreeSet<>();
        for (Method method : type.getDeclaredMethods()) {
            if (!Modifier.isPrivate(method.getModifiers()) && !method.isSynthetic()) {
                methods.add(method.toString().replace("java.lang.", ""));
            }
        }
        answers.due("methods", methods.toString(), dueMethods().toString());
        for (Field field : type.getDeclaredFields()) {
            if (!Modifier.isPrivate(field.getModifiers())) {
                answers.due("field", field.toString(), "public static final int EndTables.NONE");
            }
        }
        answers.due("NONE", "" + EndTables.NONE, "-1");
        for (Constructor<?> constructor : type.getDeclaredConstructors()) {
            answers.due("constructor", constructor.toString(), "public EndTables(int)");
        }
    }

    private static TreeSet<String> dueMethods() {
        String position = "(int,int,int,int,boolean";
        String argument = " throws IllegalArgumentException";
        String both = argument + ",IllegalStateException";
        TreeSet<String> due = new TreeSet<>();
        for (String told : List.of("distance" + position + ")" + both,
                "moves" + position + ")" + both, "best" + position + ")" + both,
                "play" + position + ",int)" + both, "line(int) throws IndexOutOfBoundsException",
                "count(int,boolean,int)" + argument, "longest(int)" + argument,
                "attacks(int,int,int,int,int)" + argument, "look(int)")) {
            due.add("public int EndTables." + told);
        }
        return due;
    }

    /** Rules 1, 2 and 11: what the classes inside may be, and names and numbers of parameters. */
    private static void members(Answers answers) {
        Set<String> publicNames = Set.of("distance", "moves", "best", "play", "line", "count",
                "longest", "attacks", "look");
        privateNames(answers, EndTables.class, publicNames);
        for (Class<?> inside : EndTables.class.getDeclaredClasses()) {
            int modifiers = inside.getModifiers();
            answers.due(inside + " is static", "" + Modifier.isStatic(modifiers), "true");
            answers.due(inside + " is seen outside",
                    "" + (Modifier.isPublic(modifiers) || Modifier.isProtected(modifiers)), "false");
            privateNames(answers, inside, publicNames);
        }
        answers.due("at most twelve classes",
                "" + (EndTables.class.getDeclaredClasses().length < 12), "true");
    }

    private static void privateNames(Answers answers, Class<?> type, Set<String> publicNames) {
        for (Method method : type.getDeclaredMethods()) {
            boolean ofTheFace = type == EndTables.class && Modifier.isPublic(method.getModifiers());
            answers.due(method + " bears a public name",
                    "" + (!ofTheFace && publicNames.contains(method.getName())), "false");
            answers.due(method + " takes at most seven",
                    "" + (method.getParameterCount() <= 7), "true");
        }
    }
}
