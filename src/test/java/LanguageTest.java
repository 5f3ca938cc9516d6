import java.io.IOException;
import java.lang.reflect.Constructor;
import java.lang.reflect.Field;
import java.lang.reflect.Method;
import java.lang.reflect.Modifier;
import java.nio.file.Files;
import java.nio.file.Path;
import java.util.ArrayList;
import java.util.List;
import java.util.Set;
import java.util.TreeSet;
import java.util.regex.Matcher;
import java.util.regex.Pattern;

/** The public face as ../shared/DOC.md writes it, and what can be seen of the rules of ../shared/LANGUAGE.md. */
public final class LanguageTest {
    /** What no line of the program may hold, outside comments and texts. */
    private static final String[] FORBIDDEN = {
        "->", "::", "\\b(try|catch|finally|synchronized|assert|native|volatile|transient|instanceof)\\b",
        "\\b(protected|while|do)\\b", "\\w+Exact\\b", "\\.(equals|hashCode|getClass|toString|intern)\\(",
        "\\b(Object|Thread|Random|Class|Iterator|Map|Set|HashMap|Stream)\\b", "\\bSystem\\.(?!arraycopy\\()",
        "\\bMath\\.(?!(max|min|abs)\\()", "\\bjava\\.(?!util\\.(Arrays|NoSuchElementException);)", "<[A-Z]\\w*>",
        "\\bArrays\\.(?!(fill|copyOf|copyOfRange)\\()", "Exception [a-z]\\w*\\)", "/ (?!MAX_STATES;|MAX_LETTERS;|2;|"
        + "CELLS;|\\(float\\) all;|\\(double\\) learnerCount;)", "% (?!MAX_STATES;|MAX_LETTERS;)"};

    public static void main(String[] args) throws IOException {
        String source = Files.readString(Path.of("src/main/java/LearnHall.java"));
        text(source);
        face();
        members();
        Due.end();
    }

    private static void text(String source) {
        Due.is("signs of the program are 1 to 127", true, source.chars().allMatch(c -> c > 0 && c < 128));
        Due.is("lines of 120 signs at most", true, source.lines().allMatch(line -> line.length() <= 120));
        String code = source.replaceAll("(?s)/\\*.*?\\*/", "").replaceAll("\"[^\"\n]*\"", "\"\"").replaceAll("//.*", "");
        for (String forbidden : FORBIDDEN) {
            Matcher matcher = Pattern.compile(forbidden).matcher(code);
            Due.is("places with " + forbidden, "", matcher.find() ? around(code, matcher.start()) : "");
        }
        Matcher loops = Pattern.compile("\\bfor \\(([^;]*);([^;]*);").matcher(code);
        while (loops.find()) {
            Due.is("a bound in for (" + loops.group(1), true, loops.group(2).matches("(?s).*[<>].*"));
        }
    }

    private static String around(String code, int at) {
        return code.substring(Math.max(0, at - 40), Math.min(code.length(), at + 40));
    }

    /** Each line of the face in the document, with its types and exceptions, and no other public member. */
    private static void face() throws IOException {
        String doc = Files.readString(Path.of("../shared/DOC.md"));
        String block = doc.substring(doc.indexOf("```java"), doc.indexOf("```", doc.indexOf("```java") + 7));
        Set<String> due = new TreeSet<>();
        Matcher lines = Pattern.compile("    public (.*?)\\((.*?)\\)(?: throws (.*?))?;").matcher(block);
        while (lines.find()) {
            String types = lines.group(2).replaceAll("(\\w+) \\w+", "$1").replace(" ", "");
            String thrown = lines.group(3) == null ? "" : lines.group(3).replace(" ", "");
            due.add(lines.group(1) + "(" + types + ")" + thrown);
        }
        Set<String> found = new TreeSet<>();
        for (Constructor<?> c : LearnHall.class.getDeclaredConstructors()) {
            found.add("LearnHall(" + names(c.getParameterTypes()) + ")" + names(c.getExceptionTypes()));
        }
        for (Method m : LearnHall.class.getDeclaredMethods()) {
            if (!Modifier.isPrivate(m.getModifiers()) && !m.isSynthetic()) {
                String head = m.getReturnType().getSimpleName() + " " + m.getName();
                found.add(head + "(" + names(m.getParameterTypes()) + ")" + names(m.getExceptionTypes()));
            }
        }
        Due.is("lines of the face", 31, due.size());
        Due.is("the face", String.join("\n", due), String.join("\n", found));
    }

    private static String names(Class<?>[] classes) {
        List<String> names = new ArrayList<>();
        for (Class<?> c : classes) {
            names.add(c.getSimpleName());
        }
        return String.join(",", names);
    }

    private static void members() {
        Set<String> faceNames = new TreeSet<>();
        for (Method m : LearnHall.class.getDeclaredMethods()) {
            if (Modifier.isPublic(m.getModifiers())) {
                faceNames.add(m.getName());
            }
        }
        for (Field f : LearnHall.class.getDeclaredFields()) {
            Due.is(f + " is private", true, Modifier.isPrivate(f.getModifiers()));
        }
        Due.is("LearnHall is final", true, Modifier.isFinal(LearnHall.class.getModifiers()));
        List<Class<?>> classes = new ArrayList<>(List.of(LearnHall.class.getDeclaredClasses()));
        classes.add(LearnHall.class);
        Due.is("twelve classes at most", true, classes.size() <= 12);
        for (Class<?> c : classes) {
            boolean isInner = c != LearnHall.class;
            Due.is(c + " is static and not public", isInner, Modifier.isStatic(c.getModifiers()));
            Due.is(c + " is not public", !isInner, Modifier.isPublic(c.getModifiers()));
            int fields = 0;
            for (Field f : c.getDeclaredFields()) {
                fields += Modifier.isStatic(f.getModifiers()) ? 0 : 1;
                Due.is(f + " is final if static", true,
                        !Modifier.isStatic(f.getModifiers()) || Modifier.isFinal(f.getModifiers()));
            }
            Due.is("twenty fields at most in " + c, true, fields <= 20);
            for (Method m : c.getDeclaredMethods()) {
                Due.is(m + " has a name of its own", true, Modifier.isPublic(m.getModifiers())
                        || !faceNames.contains(m.getName()));
                Due.is("seven parameters at most of " + m, true, m.getParameterCount() <= 7);
            }
        }
    }
}
