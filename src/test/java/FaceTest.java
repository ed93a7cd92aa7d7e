import java.io.IOException;
import java.lang.reflect.Constructor;
import java.lang.reflect.Field;
import java.lang.reflect.Method;
import java.lang.reflect.Modifier;
import java.nio.file.Files;
import java.nio.file.Path;
import java.util.ArrayList;
import java.util.List;
import java.util.Set;
import java.util.TreeSet;
import java.util.regex.Matcher;
import java.util.regex.Pattern;

/** The class has the face that the document prints, and nothing else that can be seen from outside. */
public final class FaceTest {
    private static final Pattern METHOD =
            Pattern.compile("\\s*public (\\w+) (\\w+)\\((.*?)\\)(?: throws (.*?))?;");

    public static void main(String[] args) throws IOException {
        Set<String> due = new TreeSet<>();
        Set<String> publicNames = new TreeSet<>();
        for (String row : document()) {
            Matcher matcher = METHOD.matcher(row);
            if (matcher.matches()) {
                due.add(signature(matcher.group(1), matcher.group(2), types(matcher.group(3)), matcher.group(4)));
                publicNames.add(matcher.group(2));
            }
        }
        Check.same("methods in the document", due.size(), 62);
        Check.same("public methods", publicMethods(), due);
        checkClass();
        checkHidden(publicNames);
        Check.end("FaceTest");
    }

    private static List<String> document() throws IOException {
        Path root = Path.of(System.getProperty("project.root", "."));
        List<String> face = new ArrayList<>();
        boolean inside = false;
        for (String row : Files.readAllLines(root.resolve("../shared/DOC.md"))) {
            if (row.startsWith("```")) {
                inside = !inside;
            } else if (inside) {
                face.add(row);
            }
        }
        return face;
    }

    private static String types(String parameters) {
        return parameters.replaceAll("(\\w+) \\w+", "$1").replace(" ", "");
    }

    private static String signature(String answer, String name, String types, String thrown) {
        return answer + " " + name + "(" + types + ")" + (thrown == null || thrown.isEmpty() ? "" : " " + thrown.replace(" ", ""));
    }

    private static Set<String> publicMethods() {
        Set<String> found = new TreeSet<>();
        for (Method method : MessageCoder.class.getDeclaredMethods()) {
            if (!Modifier.isPrivate(method.getModifiers()) && !method.isSynthetic()) {
                found.add(signature(method.getReturnType().getSimpleName(), method.getName(),
                        names(method.getParameterTypes()), names(method.getExceptionTypes())));
            }
        }
        return found;
    }

    private static String names(Class<?>[] types) {
        if (types.length == 0) {
            return "";
        }
        StringBuilder names = new StringBuilder();
        for (Class<?> type : types) {
            names.append(names.length() == 0 ? "" : ",").append(type.getSimpleName());
        }
        return names.toString();
    }

    private static void checkClass() {
        Check.same("class", Modifier.toString(MessageCoder.class.getModifiers()), "public final");
        Constructor<?>[] constructors = MessageCoder.class.getDeclaredConstructors();
        Check.same("constructors", constructors.length, 1);
        Check.same("constructor", Modifier.toString(constructors[0].getModifiers()), "public");
        Check.same("constructor's parameters", constructors[0].getParameterCount(), 0);
        Check.same("package", MessageCoder.class.getPackageName(), "");
    }

    /** Rules 1 and 5: what is not on the face is private, its names are its own, and static fields are final. */
    private static void checkHidden(Set<String> publicNames) {
        for (Field field : MessageCoder.class.getDeclaredFields()) {
            Check.same("field " + field.getName() + " is private", Modifier.isPrivate(field.getModifiers()), true);
        }
        List<Class<?>> all = new ArrayList<>(List.of(MessageCoder.class.getDeclaredClasses()));
        for (Class<?> inside : all) {
            Check.same(inside + " is static", Modifier.isStatic(inside.getModifiers()), true);
            for (Method method : inside.getDeclaredMethods()) {
                Check.same(inside + "." + method.getName() + " bears a public name",
                        publicNames.contains(method.getName()), false);
            }
        }
        for (Method method : MessageCoder.class.getDeclaredMethods()) {
            if (Modifier.isPrivate(method.getModifiers())) {
                Check.same(method.getName() + " bears a public name", publicNames.contains(method.getName()), false);
            }
        }
        all.add(MessageCoder.class);
        for (Class<?> one : all) {
            for (Field field : one.getDeclaredFields()) {
                if (Modifier.isStatic(field.getModifiers())) {
                    Check.same("static field " + field + " is final", Modifier.isFinal(field.getModifiers()), true);
                }
            }
        }
    }
}
