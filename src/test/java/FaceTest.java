import java.io.IOException;
import java.lang.reflect.Constructor;
import java.lang.reflect.Field;
import java.lang.reflect.Method;
import java.lang.reflect.Modifier;
import java.nio.file.Files;
import java.nio.file.Path;
import java.util.ArrayList;
import java.util.Arrays;
import java.util.List;
import java.util.TreeSet;
import java.util.stream.Collectors;

/** The face of the class against that of the document, and rules of LANGUAGE.md that can be seen from outside. */
public final class FaceTest {
    private FaceTest() {
    }

    public static void main(String[] args) throws IOException {
        membersAreThoseOfTheDocument();
        privateNamesAreOthers();
        statePartsAreFew();
        sourceKeepsOutOfWhatIsBarred();
        methodsAreShort();
        Check.end();
    }

    private static void membersAreThoseOfTheDocument() throws IOException {
        TreeSet<String> due = new TreeSet<>();
        boolean isFace = false;
        for (String line : Files.readAllLines(Path.of("../shared/DOC.md"))) {
            isFace = isFace && !line.equals("}") || line.equals("public final class Bagweave {");
            if (isFace && line.contains("(")) {
                due.add(plain(line));
            }
        }
        TreeSet<String> got = new TreeSet<>();
        for (Method method : Bagweave.class.getDeclaredMethods()) {
            if (!Modifier.isPrivate(method.getModifiers())) {
                got.add(Modifier.toString(method.getModifiers()) + " " + method.getReturnType().getSimpleName() + " "
                        + method.getName() + types(method.getParameterTypes(), "(", ")")
                        + types(method.getExceptionTypes(), "throws ", ""));
            }
        }
        for (Constructor<?> constructor : Bagweave.class.getDeclaredConstructors()) {
            got.add(Modifier.toString(constructor.getModifiers()) + " Bagweave" + types(constructor.getParameterTypes(), "(", ")"));
        }
        Check.due("the face", due.toString(), got.toString());
        Check.due("the document's face was found", true, due.size() > 40);
        Check.due("public and final", "public final", Modifier.toString(Bagweave.class.getModifiers()));
        for (Field field : Bagweave.class.getDeclaredFields()) {
            Check.due("private " + field.getName(), true, Modifier.isPrivate(field.getModifiers()));
        }
    }

    /** A line of the document without the names of parameters, as types() writes it. */
    private static String plain(String line) {
        String text = line.trim().replace(";", "");
        int open = text.indexOf('(');
        int close = text.indexOf(')');
        String parameters = Arrays.stream(text.substring(open + 1, close).split(", "))
                .map(parameter -> parameter.split(" ")[0]).collect(Collectors.joining(", "));
        String exceptions = text.substring(close + 1).trim();
        return text.substring(0, open) + "(" + parameters + ")" + exceptions;
    }

    private static String types(Class<?>[] types, String before, String after) {
        String names = Arrays.stream(types).map(Class::getSimpleName).collect(Collectors.joining(", "));
        return types.length == 0 && after.isEmpty() ? "" : before + names + after;
    }

    private static void privateNamesAreOthers() {
        List<String> names = Arrays.stream(Bagweave.class.getDeclaredMethods())
                .filter(method -> Modifier.isPublic(method.getModifiers())).map(Method::getName).toList();
        for (Class<?> owner : withInner()) {
            for (Method method : owner.getDeclaredMethods()) {
                if (!Modifier.isPublic(method.getModifiers())) {
                    Check.due("a name of its own: " + method.getName(), false, names.contains(method.getName()));
                }
                Check.due("parameters of " + method.getName(), true, method.getParameterCount() <= 7);
            }
        }
    }

    private static List<Class<?>> withInner() {
        Class<?>[] inner = Bagweave.class.getDeclaredClasses();
        List<Class<?>> all = new ArrayList<>(Arrays.asList(inner));
        all.add(Bagweave.class);
        return all;
    }

    private static void statePartsAreFew() {
        Check.due("classes", true, withInner().size() <= 12);
        for (Class<?> owner : withInner()) {
            int parts = 0;
            for (Field field : owner.getDeclaredFields()) {
                boolean isStatic = Modifier.isStatic(field.getModifiers());
                parts += isStatic ? 0 : 1;
                Check.due("static " + field.getName(), true, !isStatic || Modifier.isFinal(field.getModifiers()));
            }
            Check.due("fields of " + owner.getSimpleName(), true, parts <= 20);
            Check.due("inner " + owner.getSimpleName(), true,
                    owner == Bagweave.class || Modifier.isStatic(owner.getModifiers()));
        }
    }

    private static void sourceKeepsOutOfWhatIsBarred() throws IOException {
        String source = Files.readString(Path.of("src/main/java/Bagweave.java"));
        for (String barred : new String[] {"->", "::", "finally", "synchronized", "assert ", "instanceof", "System.",
            "Thread", "Random", "Exact(", "hashCode", "toString", "package ", "catch", "protected", "Object"}) {
            Check.due("no " + barred, false, source.contains(barred));
        }
        for (String line : source.split("\n")) {
            Check.due("an import that is meant: " + line, true,
                    !line.startsWith("import ") || line.equals("import java.util.NoSuchElementException;"));
        }
    }

    /** A method begins with a line that ends in a brace behind a round one, and ends with a brace of the same indent. */
    private static void methodsAreShort() throws IOException {
        int methods = 0;
        int length = 0;
        String end = "";
        for (String line : Files.readAllLines(Path.of("src/main/java/Bagweave.java"))) {
            length++;
            Check.due("a line of signs up to 126: " + line, true, line.chars().allMatch(sign -> sign <= 126));
            if (line.matches(" {4}( {4})?(public|private) .*\\(.*") && !line.endsWith(";")) {
                methods++;
                length = 1;
                end = line.replaceAll("\\S.*", "") + "}";
            } else if (line.equals(end)) {
                Check.due("at most 60 lines, up to " + line, true, length <= 60);
                end = "";
            }
        }
        Check.due("methods were found", true, methods >= Bagweave.class.getDeclaredMethods().length);
    }
}
