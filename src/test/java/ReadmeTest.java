import java.io.IOException;
import java.lang.reflect.Method;
import java.nio.file.Files;
import java.nio.file.Path;
import java.util.ArrayList;
import java.util.List;
import java.util.TreeSet;
import java.util.regex.Matcher;
import java.util.regex.Pattern;

/** The examples of README.md: each call with an answer behind it is made, in the order of the page. */
public final class ReadmeTest {
    private static final Pattern NEW = Pattern.compile("JugglingHall hall = new JugglingHall\\((\\d)\\);");
    private static final Pattern TOLD = Pattern.compile("tell\\(hall, \"(.*)\"\\); +// (-?\\d+).*");
    private static final Pattern CALL = Pattern.compile("hall\\.(\\w+)\\((.*)\\); +// (-?\\d+|true|false).*");
    private static final String HELPER = "static int tell(";

    private final Check check = new Check("ReadmeTest");
    private final TreeSet<String> shown = new TreeSet<>();
    private JugglingHall hall;

    public static void main(String[] args) throws ReflectiveOperationException, IOException {
        new ReadmeTest().run();
    }

    private void run() throws ReflectiveOperationException, IOException {
        for (List<String> block : blocks(Path.of("README.md"))) {
            if (block.get(0).startsWith(HELPER)) {
                helper(block);
                continue;
            }
            for (String line : block) {
                read(line);
            }
        }
        for (Method method : JugglingHall.class.getDeclaredMethods()) {
            if (java.lang.reflect.Modifier.isPublic(method.getModifiers())) {
                check.same("README.md shows " + method.getName(), shown.contains(method.getName()), true);
            }
        }
        check.finish();
    }

    private static List<List<String>> blocks(Path page) throws IOException {
        List<List<String>> all = new ArrayList<>();
        boolean inside = false;
        for (String line : Files.readAllLines(page)) {
            if (line.equals("```java")) {
                inside = true;
                all.add(new ArrayList<>());
            } else if (line.equals("```")) {
                inside = false;
            } else if (inside && !line.isBlank()) {
                all.get(all.size() - 1).add(line);
            }
        }
        return all;
    }

    /** The page's helper must be the one below, which the other examples are made with. */
    private void helper(List<String> block) throws IOException {
        String source = Files.readString(Path.of("src/test/java/ReadmeTest.java"));
        String own = String.join(" ", block).replaceAll("\\s+", " ");
        check.same("the helper of README.md is that of the test", source.replaceAll("\\s+", " ").contains(own), true);
    }

    private void read(String line) throws ReflectiveOperationException {
        Matcher made = NEW.matcher(line);
        Matcher told = TOLD.matcher(line);
        Matcher call = CALL.matcher(line);
        if (made.matches()) {
            hall = new JugglingHall(Integer.parseInt(made.group(1)));
        } else if (told.matches()) {
            check.same(line, tell(hall, told.group(1)), Integer.parseInt(told.group(2)));
        } else if (call.matches()) {
            shown.add(call.group(1));
            check.sameText(line, String.valueOf(answer(call.group(1), call.group(2))), call.group(3));
        } else {
            check.same("a line that can't be read: " + line, false, true);
        }
    }

    private Object answer(String name, String arguments) throws ReflectiveOperationException {
        String[] words = arguments.isBlank() ? new String[0] : arguments.split(", ");
        Object[] values = new Object[words.length];
        for (int i = 0; i < words.length; i++) {
            values[i] = Integer.decode(words[i]);
        }
        for (Method method : JugglingHall.class.getMethods()) {
            if (method.getName().equals(name) && method.getParameterCount() == values.length) {
                return method.invoke(hall, values);
            }
        }
        return "no such method";
    }

    static int tell(JugglingHall hall, String text) {
        int[] words = new int[75];
        for (int i = 0; i < text.length(); i++) {
            words[i / 4] |= text.charAt(i) << 24 - i % 4 * 8;
        }
        hall.end(0);
        for (int at = 0; at * 4 < text.length(); at += 5) {
            hall.feed(words[at], words[at + 1], words[at + 2], words[at + 3], words[at + 4]);
        }
        hall.end(text.length());
        return hall.text();
    }
}
