import java.io.IOException;
import java.lang.reflect.Method;
import java.lang.reflect.Modifier;
import java.nio.file.Files;
import java.nio.file.Path;
import java.util.ArrayList;
import java.util.List;
import java.util.Set;
import java.util.TreeSet;
import java.util.regex.Matcher;
import java.util.regex.Pattern;

/** What can be seen from outside of the rules of LANGUAGE.md: the face, words not allowed, lengths. */
public final class LanguageTest {
    private static final Path SOURCE = Path.of("src/main/java/SoakTub.java");
    private static final String[] NOT_ALLOWED = {
        "throw", "throws", "try", "catch", "finally", "synchronized", "assert", "import", "package", "instanceof Object",
        "->", "::", "equals(", "hashCode", "toString", "System.out", "Exact(", "static {", "Object", "Character",
        "protected", "native", "volatile", "transient", "record", "yield", "var ", "Math.random", "nanoTime"};
    private static final String[] FACE = {
        "int dye(int, int, int)", "int layer(int, int)", "int lye(int)", "int stir(int, int)", "int thing(int, int)",
        "int of(int, int)", "int change(int, int, int)", "int go(int)", "int now(int)", "int ahead(int, int, int)",
        "int dyed(int, int, int)", "int seen(int)", "int when(int, int)", "int murky(int)", "int treaty(int, int)",
        "int stirFor(int, int)", "int put(int, int)", "int kindFor(int, int)", "int holdsFor(int, int)",
        "int lyeFor(int, int)", "int out(int, int)", "int fits(int, int, int)", "int held(int, int, int)",
        "int kinds(int, int)", "int sticks(int)", "long odds(int, int)", "int seed(int)", "int feed(int, int)",
        "int wipe()", "int text()", "int hold(int, int)", "int as(int, int)", "int sheet(int, int, int)",
        "int write(int, int, int)", "int copy(int, int, int, int, int)", "int load(int)", "int judge(int)",
        "int image()", "int undo()", "int tear()", "int count(int)", "int status(int)"};
    private static final int LONGEST_METHOD = 60;

    private static int wrong = 0;

    private static void tell(String what) {
        wrong++;
        System.out.println(what);
    }

    public static void main(String[] args) throws IOException {
        String source = Files.readString(SOURCE);
        face();
        words(source.replaceAll("(?s)/\\*.*?\\*/", "").replaceAll("//.*", ""));
        lengths(source.split("\n"));
        System.out.println(wrong == 0 ? "the rules are kept" : wrong + " rules are not kept");
        if (wrong != 0) {
            System.exit(1);
        }
    }

    private static void face() {
        Set<String> face = new TreeSet<>();
        Set<String> names = new TreeSet<>();
        for (Method m : SoakTub.class.getDeclaredMethods()) {
            if (Modifier.isPublic(m.getModifiers())) {
                face.add(signature(m));
                names.add(m.getName());
            } else if (!Modifier.isPrivate(m.getModifiers())) {
                tell("neither public nor private: " + m);
            }
        }
        if (!face.equals(new TreeSet<>(List.of(FACE)))) {
            tell("the face is " + face);
        }
        for (Method m : allMethods()) {
            if (!Modifier.isPublic(m.getModifiers()) && names.contains(m.getName())) {
                tell("it bears the name of a public one: " + m);
            }
            if (m.getParameterCount() > 7) {
                tell("more than seven parameters: " + m);
            }
        }
        for (var field : SoakTub.class.getDeclaredFields()) {
            if (!Modifier.isPrivate(field.getModifiers())) {
                tell("not private: " + field);
            }
        }
        if (SoakTub.class.getDeclaredClasses().length > 11) {
            tell("more than twelve classes");
        }
    }

    private static List<Method> allMethods() {
        List<Method> all = new ArrayList<>(List.of(SoakTub.class.getDeclaredMethods()));
        for (Class<?> inside : SoakTub.class.getDeclaredClasses()) {
            if (!Modifier.isStatic(inside.getModifiers())) {
                tell("not static: " + inside);
            }
            all.addAll(List.of(inside.getDeclaredMethods()));
        }
        return all;
    }

    private static String signature(Method m) {
        List<String> types = new ArrayList<>();
        for (Class<?> type : m.getParameterTypes()) {
            types.add(type.getName());
        }
        return m.getReturnType().getName() + " " + m.getName() + "(" + String.join(", ", types) + ")";
    }

    private static void words(String code) {
        for (String word : NOT_ALLOWED) {
            String before = Character.isLetter(word.charAt(0)) ? "\\b" : "";
            String after = Character.isLetter(word.charAt(word.length() - 1)) ? "\\b" : "";
            Matcher m = Pattern.compile(before + Pattern.quote(word) + after).matcher(code);
            if (m.find()) {
                tell("not allowed: " + word);
            }
        }
    }

    private static void lengths(String[] lines) {
        int begun = -1;
        String indent = "";
        for (int i = 0; i < lines.length; i++) {
            Matcher m = Pattern.compile("( {4}| {8})[a-zA-Z].*\\) \\{").matcher(lines[i]);
            if (begun < 0 && m.matches()) {
                begun = i;
                indent = m.group(1);
            } else if (begun >= 0 && lines[i].equals(indent + "}")) {
                if (i - begun + 1 > LONGEST_METHOD) {
                    tell("too long: " + lines[begun].trim());
                }
                begun = -1;
            }
        }
    }
}
