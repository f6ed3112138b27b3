import java.io.IOException;
import java.lang.reflect.InvocationTargetException;
import java.lang.reflect.Method;
import java.lang.reflect.Modifier;
import java.nio.file.Files;
import java.nio.file.Path;
import java.util.Set;
import java.util.TreeSet;
import java.util.regex.Matcher;
import java.util.regex.Pattern;

/** The README's example answers what the README says, uses every method, and its tables name all tests. */
public final class ReadmeTest {
    private static final Pattern TOLD = Pattern.compile("feed\\(x, \"(.*)\"\\);");
    private static final Pattern ASKED = Pattern.compile("x\\.(\\w+)\\((.*?)\\); +// (-?\\w+).*");

    public static void main(String[] args) throws IOException, IllegalAccessException {
        Due due = new Due("ReadmeTest");
        String readme = Files.readString(Path.of("README.md"));
        Set<String> used = example(due, readme);
        for (Method m : PulseRent.class.getDeclaredMethods()) {
            if (Modifier.isPublic(m.getModifiers())) {
                due.is("the example uses " + m.getName(), used.contains(m.getName()), true);
                due.is("the table has " + m.getName(), readme.contains("| `" + m.getName() + "("), true);
            }
        }
        tests(due, readme);
        due.end();
    }

    private static Set<String> example(Due due, String readme) throws IllegalAccessException {
        Set<String> used = new TreeSet<>();
        used.add("feed");
        PulseRent x = new PulseRent();
        int begin = readme.indexOf("PulseRent x = new PulseRent();");
        due.is("the README has an example", begin >= 0, true);
        String text = readme.substring(Math.max(0, begin));
        for (String line : text.substring(0, Math.max(0, text.indexOf("```"))).split("\n")) {
            Matcher told = TOLD.matcher(line);
            Matcher asked = ASKED.matcher(line);
            if (told.matches()) {
                Due.feed(x, told.group(1));
            } else if (asked.matches()) {
                used.add(asked.group(1));
                due.same(line, answer(x, asked.group(1), asked.group(2)), asked.group(3));
            } else {
                due.is("a line that can be read: " + line, line.isEmpty() || line.startsWith("//")
                        || line.equals("PulseRent x = new PulseRent();"), true);
            }
        }
        return used;
    }

    private static String answer(PulseRent x, String name, String list) throws IllegalAccessException {
        String[] texts = list.isEmpty() ? new String[0] : list.split(", ");
        for (Method m : PulseRent.class.getMethods()) {
            if (m.getName().equals(name) && m.getParameterCount() == texts.length) {
                Object[] values = new Object[texts.length];
                for (int i = 0; i < texts.length; i++) {
                    boolean yesOrNo = m.getParameterTypes()[i] == boolean.class;
                    values[i] = yesOrNo ? Boolean.valueOf(texts[i]) : (Object) Integer.valueOf(texts[i]);
                }
                try {
                    return String.valueOf(m.invoke(x, values));
                } catch (InvocationTargetException e) {
                    return e.getCause().getClass().getSimpleName();
                }
            }
        }
        return "no such method";
    }

    private static void tests(Due due, String readme) throws IOException {
        try (var files = Files.list(Path.of("src/test/java"))) {
            for (Path file : (Iterable<Path>) files::iterator) {
                String name = file.getFileName().toString().replace(".java", "");
                if (name.endsWith("Test")) {
                    due.is("the README names " + name, readme.contains(name), true);
                }
            }
        }
    }
}
