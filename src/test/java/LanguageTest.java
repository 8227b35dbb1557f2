import java.io.IOException;
import java.lang.reflect.Constructor;
import java.lang.reflect.Field;
import java.lang.reflect.Method;
import java.lang.reflect.Modifier;
import java.nio.file.Files;
import java.nio.file.Path;
import java.util.Set;
import java.util.TreeSet;
import java.util.regex.Matcher;
import java.util.regex.Pattern;

/** The face of the document, and those rules of LANGUAGE.md that can be seen from the class and its source. */
public final class LanguageTest {
    private static final Set<String> FACE = Set.of("int feed(int,int,int,int,int)", "int end(int)", "int text()",
            "int fault(int)", "boolean look(int)", "int beats(int)", "int thrown(int,int,int,int,int)",
            "int good(int,int)", "int cycles(int)", "int cycle(int,int,int)", "int cycleOf(int,int,int,int)",
            "int caught(int,int,int,int,int)", "int state(int,int)", "int way(int,int,int)", "int loops(int,int,int)",
            "int clear()", "int add(int,int)", "int score(int,int)", "int seen(int)", "int whole(int,int)",
            "int drop(int,int,int)", "int turned(int,int)", "int about(int)");
    private static final String FORBIDDEN = "\\b(throw|throws|try|catch|synchronized|assert|import static|protected"
            + "|System\\.(?!arraycopy)\\w+|Thread|Random|hashCode|toString|getClass|Exact)\\b|->|::|\\w+Exact\\(";

    private static Check check;

    public static void main(String[] args) throws IOException {
        check = new Check("LanguageTest");
        face();
        nested();
        source(Files.readString(Path.of("src/main/java/JugglingHall.java")));
        check.finish();
    }

    private static void face() {
        Class<?> hall = JugglingHall.class;
        check.same("public and final", hall.getModifiers(), Modifier.PUBLIC | Modifier.FINAL);
        Set<String> found = new TreeSet<>();
        for (Method method : hall.getDeclaredMethods()) {
            if (Modifier.isPrivate(method.getModifiers())) {
                check.same("no private " + method.getName(), isFaceName(method.getName()), false);
            } else {
                check.same(method + " is public", method.getModifiers(), Modifier.PUBLIC);
                found.add(signature(method));
            }
        }
        check.sameText("the methods", found.toString(), new TreeSet<>(FACE).toString());
        for (Field field : hall.getDeclaredFields()) {
            boolean isNone = field.getName().equals("NONE") && field.getType() == int.class;
            int due = isNone ? Modifier.PUBLIC | Modifier.STATIC | Modifier.FINAL : Modifier.PRIVATE;
            check.same("" + field, field.getModifiers() & due, due);
        }
        Constructor<?>[] constructors = hall.getDeclaredConstructors();
        check.same("constructors", constructors.length, 1);
        check.sameText("constructor", constructors[0].toString(), "public JugglingHall(int)");
    }

    private static String signature(Method method) {
        StringBuilder text = new StringBuilder(method.getReturnType() + " " + method.getName() + "(");
        for (Class<?> type : method.getParameterTypes()) {
            text.append(text.charAt(text.length() - 1) == '(' ? "" : ",").append(type);
        }
        return text.append(")").toString();
    }

    private static boolean isFaceName(String name) {
        return FACE.stream().anyMatch(one -> one.contains(" " + name + "("));
    }

    private static void nested() {
        Class<?>[] classes = JugglingHall.class.getDeclaredClasses();
        check.same("at most twelve classes", classes.length < 12, true);
        for (Class<?> one : classes) {
            check.same(one + " is static", Modifier.isStatic(one.getModifiers()), true);
            check.same(one + " is not public", Modifier.isPublic(one.getModifiers()), false);
            int fields = 0;
            for (Field field : one.getDeclaredFields()) {
                fields += Modifier.isStatic(field.getModifiers()) ? 0 : 1;
                check.same(field + " static: final", !Modifier.isStatic(field.getModifiers())
                        || Modifier.isFinal(field.getModifiers()), true);
            }
            check.same(one + ": at most twenty fields", fields <= 20, true);
            for (Method method : one.getDeclaredMethods()) {
                check.same(method + " has a name of its own", isFaceName(method.getName()), false);
                check.same(method + ": at most seven parameters", method.getParameterCount() <= 7, true);
            }
        }
    }

    private static void source(String whole) {
        for (int i = 0; i < whole.length(); i++) {
            check.same("signs of the source", whole.charAt(i) < 127, true);
        }
        String code = whole.replaceAll("(?s)/\\*.*?\\*/", "").replaceAll("//[^\n]*", "")
                .replaceAll("\"[^\"\n]*\"", "\"\"");
        Matcher matcher = Pattern.compile(FORBIDDEN).matcher(code);
        while (matcher.find()) {
            check.sameText("what may not stand there", matcher.group(), "");
        }
        Matcher imports = Pattern.compile("import ([^;]+);").matcher(code);
        while (imports.find()) {
            check.sameText("import", imports.group(1), "java.util.Arrays");
        }
        lengths(whole.split("\n"));
    }

    /** A method begins with a line that ends its head with ) {, and ends with the brace of like indent. */
    private static void lengths(String[] lines) {
        Pattern head = Pattern.compile("( +)(public|private|static|void|int|boolean|Row|Marks|[A-Z]\\w+\\().*\\) \\{");
        for (int i = 0; i < lines.length; i++) {
            Matcher matcher = head.matcher(lines[i]);
            if (matcher.matches()) {
                int last = i;
                while (last < lines.length && !lines[last].equals(matcher.group(1) + "}")) {
                    last++;
                }
                check.same("at most sixty lines: " + lines[i].trim(), last - i < 60, true);
            }
        }
    }
}
