import java.io.IOException;
import java.lang.reflect.Field;
import java.lang.reflect.Method;
import java.lang.reflect.Modifier;
import java.nio.file.Files;
import java.nio.file.Path;
import java.util.ArrayList;
import java.util.Arrays;
import java.util.List;
import java.util.Set;
import java.util.TreeSet;
import java.util.regex.Matcher;
import java.util.regex.Pattern;

/** The face of the document, and those rules of ../shared/LANGUAGE.md that can be looked up. */
public final class LanguageTest {
    private static final Path SOURCE = Path.of("src/main/java/FoughtFromMemory.java");
    private static final Path DOCUMENT = Path.of("../shared/DOC.md");
    private static final Checks CHECKS = new Checks("LanguageTest");

    private LanguageTest() {
    }

    public static void main(String[] args) throws IOException {
        face();
        for (Class<?> c : classes()) {
            members(c);
        }
        String source = Files.readString(SOURCE);
        words(source.replaceAll("(?s)/\\*.*?\\*/", "").replaceAll("//.*", ""));
        lengths(source);
        CHECKS.end();
    }

    private static List<Class<?>> classes() {
        List<Class<?>> all = new ArrayList<>();
        all.add(FoughtFromMemory.class);
        all.addAll(Arrays.asList(FoughtFromMemory.class.getDeclaredClasses()));
        return all;
    }

    private static void face() throws IOException {
        Set<String> due = new TreeSet<>();
        Matcher m = Pattern.compile("(?m)^    public (int|long) (\\w+)\\((.*)\\);$").matcher(Files.readString(DOCUMENT));
        while (m.find()) {
            int arguments = m.group(3).isEmpty() ? 0 : m.group(3).split(",").length;
            due.add(m.group(1) + " " + m.group(2) + " " + arguments);
        }
        Set<String> got = new TreeSet<>();
        Set<String> hidden = new TreeSet<>();
        for (Class<?> c : classes()) {
            for (Method method : c.getDeclaredMethods()) {
                if (Modifier.isPublic(method.getModifiers())) {
                    got.add(method.getReturnType() + " " + method.getName() + " " + method.getParameterCount());
                    CHECKS.holds(method + " takes ints", Arrays.stream(method.getParameterTypes()).allMatch(p -> p == int.class));
                } else {
                    hidden.add(method.getName());
                    CHECKS.holds(method + " is private",
                            c != FoughtFromMemory.class || Modifier.isPrivate(method.getModifiers()));
                }
            }
        }
        CHECKS.due("methods of the face", got.size(), 32);
        CHECKS.holds("the face is " + due + ", not " + got, due.equals(got));
        for (String name : Face.NAMES) {
            CHECKS.holds("no hidden method is named " + name, !hidden.contains(name));
        }
        CHECKS.due("constructors", FoughtFromMemory.class.getDeclaredConstructors().length, 1);
        CHECKS.holds("public and final", Modifier.isFinal(FoughtFromMemory.class.getModifiers())
                && Modifier.isPublic(FoughtFromMemory.class.getModifiers()));
        CHECKS.holds("at most 12 classes", classes().size() <= 12);
    }

    private static void members(Class<?> c) {
        int fields = 0;
        for (Field field : c.getDeclaredFields()) {
            boolean isStatic = Modifier.isStatic(field.getModifiers());
            fields += isStatic ? 0 : 1;
            CHECKS.holds(field + " is private", Modifier.isPrivate(field.getModifiers()));
            CHECKS.holds(field + " is final if static", !isStatic || Modifier.isFinal(field.getModifiers()));
        }
        CHECKS.holds(c + " has at most 20 fields", fields <= 20);
        CHECKS.holds(c + " has no class further in", c == FoughtFromMemory.class || c.getDeclaredClasses().length == 0);
        CHECKS.holds(c + " is static", c == FoughtFromMemory.class || Modifier.isStatic(c.getModifiers()));
        for (Method method : c.getDeclaredMethods()) {
            CHECKS.holds(method + " takes at most 7", method.getParameterCount() <= 7);
        }
    }

    private static void words(String code) {
        for (String word : new String[] {"throw", "throws", "try", "catch", "synchronized", "assert", "import", "package",
            "double", "float", "native", "volatile", "yield", "var"}) {
            CHECKS.holds("no " + word, !Pattern.compile("\\b" + word + "\\b").matcher(code).find());
        }
        for (String sign : new String[] {"->", "::", "Exact(", "MAX_VALUE", "MIN_VALUE", "java.", ".hashCode", ".getClass"}) {
            CHECKS.holds("no " + sign, !code.contains(sign));
        }
        Set<String> library = Set.of("Integer.bitCount", "Math.max", "Math.min", "Math.floorMod", "System.arraycopy");
        Matcher m = Pattern.compile("\\b(Integer|Long|Math|System|Arrays|String)\\.\\w+").matcher(code);
        while (m.find()) {
            CHECKS.holds("listed: " + m.group(), library.contains(m.group()));
        }
        for (char sign : code.toCharArray()) {
            if (sign > 126) {
                CHECKS.holds("signs up to 126 alone", false);
            }
        }
    }

    /** A method begins and ends with a line that is indented as a member of its class is. */
    private static void lengths(String source) {
        String[] lines = source.split("\n");
        for (int i = 0; i < lines.length; i++) {
            Matcher m = Pattern.compile("^( {4}| {8})\\w.*\\) \\{$").matcher(lines[i]);
            if (m.find()) {
                int end = i;
                while (!lines[end].equals(m.group(1) + "}")) {
                    end++;
                }
                CHECKS.holds("at most 60 lines: " + lines[i], end - i < 60);
            }
            CHECKS.holds("at most 120 signs in line " + (i + 1), lines[i].length() <= 120);
        }
    }
}
