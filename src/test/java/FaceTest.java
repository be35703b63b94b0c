import java.lang.reflect.Constructor;
import java.lang.reflect.Executable;
import java.lang.reflect.Field;
import java.lang.reflect.Method;
import java.lang.reflect.Modifier;
import java.util.ArrayList;
import java.util.List;
import java.util.TreeSet;
import java.util.regex.Matcher;
import java.util.regex.Pattern;

/** The public face: what the class shows is, to the letter, what the document writes, with all "throws", and no more. */
public final class FaceTest {
    private static final Check CHECK = new Check("FaceTest");
    private static final Pattern MEMBER = Pattern.compile("public (?:(\\w+) )?(\\w+)\\(([^)]*)\\)(?: throws ([\\w, ]+))?;");

    public static void main(String[] args) {
        int modifiers = Searchcluster.class.getModifiers();
        CHECK.is("public and final", Modifier.isPublic(modifiers) && Modifier.isFinal(modifiers), true);
        CHECK.is("of no package", Searchcluster.class.getPackageName(), "");
        CHECK.is("what stands above it", Searchcluster.class.getSuperclass(), Object.class);
        CHECK.is("the face", shown(), written());
        for (Field field : Searchcluster.class.getDeclaredFields()) {
            CHECK.is(field.getName() + " is private", Modifier.isPrivate(field.getModifiers()), true);
        }
        CHECK.end();
    }

    /** What the document writes, as "int put(int, boolean) throws IndexOutOfBoundsException". */
    private static TreeSet<String> written() {
        TreeSet<String> rows = new TreeSet<>();
        Matcher member = MEMBER.matcher(DocText.face());
        while (member.find()) {
            List<String> types = new ArrayList<>();
            for (String parameter : member.group(3).split(", ")) {
                types.add(parameter.split(" ")[0]);
            }
            String answer = member.group(1) == null ? "" : member.group(1) + " ";
            rows.add("public " + answer + member.group(2) + "(" + String.join(", ", types) + ") throws "
                    + (member.group(4) == null ? "" : member.group(4)));
        }
        CHECK.is("members in the document", rows.size(), 55);
        return rows;
    }

    private static TreeSet<String> shown() {
        TreeSet<String> rows = new TreeSet<>();
        for (Constructor<?> made : Searchcluster.class.getDeclaredConstructors()) {
            rows.add(row(made, "Searchcluster"));
        }
        for (Method method : Searchcluster.class.getDeclaredMethods()) {
            if (!Modifier.isPrivate(method.getModifiers())) {
                rows.add(row(method, method.getReturnType().getSimpleName() + " " + method.getName()));
            }
        }
        return rows;
    }

    private static String row(Executable member, String name) {
        return Modifier.toString(member.getModifiers()) + " " + name + "(" + names(member.getParameterTypes()) + ") throws "
                + names(member.getExceptionTypes());
    }

    private static String names(Class<?>[] types) {
        List<String> names = new ArrayList<>();
        for (Class<?> type : types) {
            names.add(type.getSimpleName());
        }
        return String.join(", ", names);
    }
}
