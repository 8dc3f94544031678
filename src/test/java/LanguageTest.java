import java.io.IOException;
import java.lang.reflect.Constructor;
import java.lang.reflect.Field;
import java.lang.reflect.Method;
import java.lang.reflect.Modifier;
import java.nio.file.Files;
import java.nio.file.Path;
import java.util.ArrayList;
import java.util.Arrays;
import java.util.HashSet;
import java.util.List;
import java.util.Set;
import java.util.TreeSet;

/** The face of the class, and what of the rules for its Java can be seen from outside. */
public final class LanguageTest {
    private static final String[] FACE = {"feed 5", "text 1", "fault 1", "step 1", "equation 2", "code 3", "line 3", "by 3",
        "uses 2", "users 2", "inState 2", "next 0", "goal 2", "goalCode 3", "goalSources 1", "meetsIn 1", "normal 1",
        "told 2", "compare 1", "meet 1", "met 1", "overlaps 2", "overlap 4", "open 1", "ifStep 2", "needed 0",
        "turnedRank 0", "bestWeight 0", "sign 2", "count 1"};
    private static final String[] NEVER = {"catch", "finally", "lambda", "->", "::", "synchronized", "assert ", "System.out",
        "Exact(", "Math.random", "nanoTime", "currentTime", "Thread", "import java.io", "import java.nio", "equals(Object",
        "hashCode", "toString", "package ", "static {", "getClass"};

    private static int wrong = 0;

    private static void holds(String what, boolean holds) {
        if (!holds) {
            wrong++;
            System.out.println("not so: " + what);
        }
    }

    private static void face() {
        Class<?> c = CompletionLab.class;
        holds("public and final", Modifier.isPublic(c.getModifiers()) && Modifier.isFinal(c.getModifiers()));
        Set<String> told = new TreeSet<>();
        Set<String> names = new HashSet<>();
        for (Method m : c.getDeclaredMethods()) {
            holds(m.getName() + " is private or public", Modifier.isPublic(m.getModifiers()) || Modifier.isPrivate(m.getModifiers()));
            if (Modifier.isPublic(m.getModifiers())) {
                told.add(m.getName() + " " + m.getParameterCount());
                names.add(m.getName());
                holds(m.getName() + " answers an int of ints", m.getReturnType() == int.class
                        && Arrays.stream(m.getParameterTypes()).allMatch(t -> t == int.class));
            }
        }
        holds("the methods of the face: " + told, told.equals(new TreeSet<>(List.of(FACE))));
        List<String> open = new ArrayList<>();
        for (Field f : c.getDeclaredFields()) {
            if (!Modifier.isPrivate(f.getModifiers())) {
                open.add(f.getName());
            }
        }
        holds("no other member: " + open, open.equals(List.of("NONE")));
        for (Constructor<?> k : c.getDeclaredConstructors()) {
            holds("the constructor", Modifier.isPublic(k.getModifiers()) && k.getParameterCount() == 0);
        }
        int classes = 1;
        for (Class<?> inner : c.getDeclaredClasses()) {
            classes++;
            holds(inner + " is static and private", Modifier.isStatic(inner.getModifiers()) && Modifier.isPrivate(inner.getModifiers()));
            int fields = 0;
            for (Field f : inner.getDeclaredFields()) {
                fields += Modifier.isStatic(f.getModifiers()) ? 0 : 1;
                holds(f + " is final, if it is static", !Modifier.isStatic(f.getModifiers()) || Modifier.isFinal(f.getModifiers()));
            }
            holds(inner + " has " + fields + " fields", fields <= 20);
            for (Method m : inner.getDeclaredMethods()) {
                holds(m + " bears no name of the face", !names.contains(m.getName()));
                holds(m + " takes seven at most", m.getParameterCount() <= 7);
            }
        }
        holds("some twelve classes: " + classes, classes <= 12);
    }

    private static void source() throws IOException {
        List<String> lines = Files.readAllLines(Path.of("src/main/java/CompletionLab.java"));
        int since = 0;
        for (int i = 0; i < lines.size(); i++) {
            String line = lines.get(i);
            for (String word : NEVER) {
                holds("line " + (i + 1) + " without " + word, !line.contains(word));
            }
            holds("line " + (i + 1) + " of 1 .. 127", line.chars().allMatch(s -> s > 0 && s < 128));
            holds("line " + (i + 1) + " is not too long", line.length() <= 130);
            boolean head = line.endsWith("{") && (line.matches(" {4}(public|private) .*\\) .*\\{") || line.matches(" {8}\\w.*\\) \\{")
                    && !line.matches(" {8}(if|for|while|switch|do)\\b.*"));
            since = head ? i : since;
            if (line.equals("    }") || line.equals("        }")) {
                holds("the method at line " + (since + 1) + " is short", line.equals("    }") && lines.get(since).startsWith("     ")
                        || i - since < 60);
            }
        }
    }

    public static void main(String[] args) throws IOException {
        face();
        source();
        System.out.println("LanguageTest: " + wrong + " not so");
        if (wrong > 0) {
            System.exit(1);
        }
    }
}
