import java.io.IOException;
import java.lang.reflect.Field;
import java.lang.reflect.Method;
import java.lang.reflect.Modifier;
import java.nio.file.Files;
import java.nio.file.Path;
import java.util.Arrays;
import java.util.HashSet;
import java.util.List;
import java.util.Set;
import java.util.regex.Matcher;
import java.util.regex.Pattern;

/** Those rules of LANGUAGE.md that can be looked up in the source and the classes; the argument is the source file. */
public final class LanguageTest {
    private static final Check CHECK = new Check("LanguageTest");

    private static final String[] FORBIDDEN = {"import (?!java\\.util\\.ArrayList;)", "^package ", "->", "::",
        "\\bsynchronized\\b", "\\bassert\\b", "\\bfinally\\b", "\\bcatch\\b", "\\btry\\b", "\\bString\\.", "\\bSystem\\.",
        "\\+ *\"", "\" *\\+", "Exact\\(", "\\bObject\\b", "\\.(hashCode|toArray|stream|format|valueOf)\\(", "@Override",
        "\\bstatic \\{", "\\b(double|float)\\b", "while \\(true\\)", "for \\(;;\\)", "\\brecord\\b", "\\bvar\\b", "\\{\\{"};

    public static void main(String[] args) throws IOException {
        Path source = Path.of(args.length > 0 ? args[0] : "src/main/java/Searchcluster.java");
        List<String> lines = Files.readAllLines(source);
        for (String line : lines) {
            String code = line.replaceAll("^ */?\\*.*$", "").replaceAll("//.*$", "");
            for (String pattern : FORBIDDEN) {
                if (Pattern.compile(pattern).matcher(code).find()) {
                    CHECK.is("no \"" + pattern + "\"", line, "not there");
                }
            }
            CHECK.is("signs 1 to 127", line.chars().allMatch(sign -> sign < 128), true);
        }
        lengths(lines);
        face();
        inner();
        CHECK.end();
    }

    private static void lengths(List<String> lines) {
        Pattern head = Pattern.compile("^( {4}| {8})(public |private |static |final )*[\\w<>\\[\\]]+ ?\\w*\\(.*\\{$");
        int from = 0;
        String indent = null;
        for (int i = 0; i < lines.size(); i++) {
            Matcher matcher = head.matcher(lines.get(i));
            if (indent == null && matcher.matches()) {
                from = i;
                indent = matcher.group(1);
            } else if (indent != null && lines.get(i).equals(indent + "}")) {
                CHECK.is("sixty lines at most: " + lines.get(from), i - from < 60, true);
                indent = null;
            }
        }
    }

    private static Set<String> faceNames() {
        Set<String> names = new HashSet<>();
        for (Method method : Searchcluster.class.getMethods()) {
            if (method.getDeclaringClass() == Searchcluster.class) {
                names.add(method.getName());
            }
        }
        return names;
    }

    private static void face() {
        Set<String> due = new HashSet<>();
        for (Method method : Model.class.getMethods()) {
            if (method.getDeclaringClass() == Model.class) {
                due.add(method.getName());
            }
        }
        CHECK.is("the face", faceNames(), due);
        for (Method method : Searchcluster.class.getDeclaredMethods()) {
            boolean isPublic = Modifier.isPublic(method.getModifiers());
            CHECK.is("public or private: " + method, isPublic || Modifier.isPrivate(method.getModifiers()), true);
            CHECK.is("no public name: " + method, isPublic || !faceNames().contains(method.getName()), true);
        }
        for (Field field : Searchcluster.class.getDeclaredFields()) {
            CHECK.is("private: " + field, Modifier.isPrivate(field.getModifiers()), true);
        }
    }

    private static void inner() {
        Class<?>[] classes = Searchcluster.class.getDeclaredClasses();
        CHECK.is("twelve classes at most", classes.length < 12, true);
        for (Class<?> inner : classes) {
            CHECK.is("private and static: " + inner,
                    Modifier.isPrivate(inner.getModifiers()) && Modifier.isStatic(inner.getModifiers()), true);
            long fields = Arrays.stream(inner.getDeclaredFields())
                    .filter(field -> !Modifier.isStatic(field.getModifiers())).count();
            CHECK.is("twenty fields at most: " + inner, fields <= 20, true);
            for (Field field : inner.getDeclaredFields()) {
                boolean isRight = !Modifier.isStatic(field.getModifiers()) || Modifier.isFinal(field.getModifiers());
                CHECK.is("static fields are final: " + field, isRight, true);
            }
            for (Method method : inner.getDeclaredMethods()) {
                CHECK.is("no public name: " + method, faceNames().contains(method.getName()), false);
                CHECK.is("seven parameters at most: " + method, method.getParameterCount() <= 7, true);
            }
        }
    }
}
