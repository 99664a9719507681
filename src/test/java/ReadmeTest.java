import java.io.IOException;
import java.lang.reflect.Method;
import java.lang.reflect.Modifier;
import java.nio.file.Files;
import java.nio.file.Path;
import java.util.HashMap;
import java.util.Map;
import java.util.Set;
import java.util.TreeSet;
import java.util.regex.Matcher;
import java.util.regex.Pattern;

/** Makes each call that README.md shows, line by line, and looks whether it answers what stands behind it. */
public final class ReadmeTest {
    private static final Path README = Path.of("README.md");
    private static final String NEW_TUB = "SoakTub tub = new SoakTub();";
    private static final Pattern CALL = Pattern.compile(
        "(?:(int|long) (\\w+) = )?tub\\.(\\w+)\\(([^)]*)\\); +// (-?\\d+)(?:: .+)?");

    private static final Map<String, Long> names = new HashMap<>();
    private static final Set<String> shown = new TreeSet<>();
    private static SoakTub tub = null;
    private static int wrong = 0;

    private static void tell(String what) {
        wrong++;
        System.out.println(what);
    }

    public static void main(String[] args) throws IOException, ReflectiveOperationException {
        boolean inJava = false;
        for (String line : Files.readString(README).split("\n")) {
            if (line.startsWith("```")) {
                inJava = line.equals("```java");
                tub = null;
                names.clear();
            } else if (inJava) {
                example(line);
            }
        }
        Set<String> face = face();
        if (!shown.equals(face)) {
            face.removeAll(shown);
            tell("README.md shows no call of " + face);
        }
        System.out.println(wrong == 0 ? "all answers are as README.md says" : wrong + " lines are not as README.md says");
        if (wrong != 0) {
            System.exit(1);
        }
    }

    private static void example(String line) throws ReflectiveOperationException {
        Matcher call = CALL.matcher(line);
        if (line.equals(NEW_TUB)) {
            tub = new SoakTub();
        } else if (tub == null || !call.matches()) {
            tell("not to be read: " + line);
        } else {
            long got = answer(call.group(3), call.group(4));
            if (got != Long.parseLong(call.group(5))) {
                tell("answered " + got + ": " + line);
            }
            if (call.group(2) != null) {
                names.put(call.group(2), got);
            }
        }
    }

    private static long answer(String name, String words) throws ReflectiveOperationException {
        String[] parts = words.isEmpty() ? new String[0] : words.split(", ");
        Object[] values = new Object[parts.length];
        Class<?>[] types = new Class<?>[parts.length];
        for (int i = 0; i < parts.length; i++) {
            values[i] = value(parts[i]);
            types[i] = int.class;
        }
        shown.add(name);
        Method method = SoakTub.class.getMethod(name, types);
        return ((Number) method.invoke(tub, values)).longValue();
    }

    /** A name, a sign such as 'v', or a number, also such as 0x7665. */
    private static int value(String word) {
        if (names.containsKey(word)) {
            return names.get(word).intValue();
        }
        return word.length() == 3 && word.charAt(0) == '\'' ? word.charAt(1) : Integer.decode(word);
    }

    private static Set<String> face() {
        Set<String> face = new TreeSet<>();
        for (Method m : SoakTub.class.getDeclaredMethods()) {
            if (Modifier.isPublic(m.getModifiers())) {
                face.add(m.getName());
            }
        }
        return face;
    }
}
