import java.io.IOException;
import java.lang.reflect.Constructor;
import java.lang.reflect.Field;
import java.lang.reflect.Method;
import java.lang.reflect.Modifier;
import java.nio.file.Files;
import java.nio.file.Path;
import java.util.Set;
import java.util.TreeSet;

/** The public face as the document has it, and what LANGUAGE.md leaves out, as far as it can be seen. */
public final class FaceTest {
    private static final String[] FACE = {
        "int feed(long,long,long)", "int house()", "int months()", "int room(int,int)", "int tenant(int,int)",
        "int pulse(int)", "int climb(int)", "int fright(int,int)", "boolean drink(int)", "int minutes(int)",
        "int noon()", "boolean move(int,int)", "boolean undo()", "int judged(int)", "int owed(int)",
        "int will(int,int)", "int last(int,int)", "int errands(int,int)", "int match(int)", "int spare(int,int)",
        "int sampled(int,int,int,int)", "int haunt(int,int,int,int)", "int lease(int,int)", "int share(int,int)",
        "int law(int,int)", "boolean sample(int,int)", "int days(int)", "int did(int,int)", "int next(int)",
        "int years(int,int,int)", "boolean mark(int,boolean)", "int count(int)"};

    public static void main(String[] args) throws IOException {
        Due due = new Due("FaceTest");
        due.is("public and final", PulseRent.class.getModifiers(), Modifier.PUBLIC | Modifier.FINAL);
        methods(due);
        fields(due);
        for (Constructor<?> c : PulseRent.class.getDeclaredConstructors()) {
            due.is("a public constructor without parameters", Modifier.isPublic(c.getModifiers())
                    && c.getParameterCount() == 0, true);
        }
        for (Class<?> inner : PulseRent.class.getDeclaredClasses()) {
            int m = inner.getModifiers();
            due.is(inner + " is static and not public", Modifier.isStatic(m) && !Modifier.isPublic(m)
                    && !Modifier.isProtected(m), true);
        }
        source(due);
        due.end();
    }

    private static void methods(Due due) {
        Set<String> want = new TreeSet<>(Set.of(FACE));
        Set<String> names = new TreeSet<>();
        for (String line : FACE) {
            names.add(line.substring(line.indexOf(' ') + 1, line.indexOf('(')));
        }
        Set<String> got = new TreeSet<>();
        for (Method m : PulseRent.class.getDeclaredMethods()) {
            if (Modifier.isPrivate(m.getModifiers())) {
                due.is("private " + m.getName() + " has a name of its own", names.contains(m.getName()), false);
            } else {
                StringBuilder types = new StringBuilder();
                for (Class<?> type : m.getParameterTypes()) {
                    types.append(types.length() > 0 ? "," : "").append(type.getName());
                }
                got.add(m.getReturnType().getName() + " " + m.getName() + "(" + types + ")");
                due.is(m.getName() + " is public alone", m.getModifiers(), Modifier.PUBLIC);
            }
        }
        due.is("the methods of the face: " + got, got.equals(want), true);
        for (Class<?> inner : PulseRent.class.getDeclaredClasses()) {
            for (Method m : inner.getDeclaredMethods()) {
                due.is(inner + "." + m.getName() + " has a name of its own", names.contains(m.getName()), false);
            }
        }
    }

    private static void fields(Due due) {
        int seen = 0;
        for (Field f : PulseRent.class.getDeclaredFields()) {
            int m = f.getModifiers();
            seen += Modifier.isPrivate(m) ? 0 : 1;
            due.is(f + " is private, or NONE", Modifier.isPrivate(m) || f.getName().equals("NONE"), true);
            due.is(f + " is final if static", !Modifier.isStatic(m) || Modifier.isFinal(m), true);
        }
        due.is("NONE alone is public", seen, 1);
    }

    private static void source(Due due) throws IOException {
        String text = Files.readString(Path.of("src/main/java/PulseRent.java"));
        String[] never = {"->", "::", "catch", "try {", "finally", "synchronized", "assert ", "Exact(", "instanceof",
            "System.out", "Random", "currentTime", "nanoTime", "Thread", ".equals(", ".hashCode(", "package "};
        for (String word : never) {
            due.is("in the class: " + word, text.contains(word), false);
        }
        due.is("signs of 1 to 127", text.chars().allMatch(c -> c > 0 && c < 128), true);
        for (String line : text.split("\n")) {
            if (line.startsWith("import ")) {
                due.is(line, line.equals("import java.util.Arrays;")
                        || line.equals("import java.util.NoSuchElementException;"), true);
            }
        }
    }
}
