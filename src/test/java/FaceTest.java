import java.io.IOException;
import java.lang.reflect.Constructor;
import java.lang.reflect.Field;
import java.lang.reflect.Method;
import java.lang.reflect.Modifier;
import java.nio.file.Files;
import java.nio.file.Path;
import java.util.ArrayList;
import java.util.Arrays;
import java.util.Collections;
import java.util.List;
import java.util.regex.Matcher;
import java.util.regex.Pattern;

/** The public face of the document, and the rules of LANGUAGE.md that a machine can see at once. */
public final class FaceTest {
    private static final Check CHECK = new Check();

    public static void main(String[] args) throws IOException {
        members();
        innerClasses();
        sizes();
        names();
        words();
        imports();
        CHECK.finish();
    }

    private static void members() {
        String[] due = {
            "int NONE",
            "FixtureOrder()",
            "int fixture(int, int, boolean, boolean)",
            "int needs(int, int)",
            "int test(int)",
            "boolean uses(int, int)",
            "boolean takes(int, int, int)",
            "boolean fails(int, int, int)",
            "int run(int)",
            "int events()",
            "int event(int, int)",
            "int outcome(int, int)",
            "int counted(int, int)",
            "int closure(int, int)",
            "int cases(int)",
        };
        List<String> found = new ArrayList<>();
        for (Field field : FixtureOrder.class.getDeclaredFields()) {
            if (!Modifier.isPrivate(field.getModifiers())) {
                found.add(field.getType() + " " + field.getName());
            }
        }
        for (Constructor<?> made : FixtureOrder.class.getDeclaredConstructors()) {
            found.add("FixtureOrder" + parameters(made.getParameterTypes()));
        }
        for (Method method : FixtureOrder.class.getDeclaredMethods()) {
            if (!Modifier.isPrivate(method.getModifiers())) {
                found.add(method.getReturnType() + " " + method.getName() + parameters(method.getParameterTypes()));
            }
        }
        Arrays.sort(due);
        Collections.sort(found);
        CHECK.dueText("the face", String.join("\n", due), String.join("\n", found));
        CHECK.due("the class is final", true, Modifier.isFinal(FixtureOrder.class.getModifiers()));
    }

    private static String parameters(Class<?>[] types) {
        List<String> names = new ArrayList<>();
        for (Class<?> type : types) {
            names.add(type.getName());
        }
        return "(" + String.join(", ", names) + ")";
    }

    private static void innerClasses() {
        Class<?>[] inside = FixtureOrder.class.getDeclaredClasses();
        CHECK.due("at most twelve classes", true, inside.length < 12);
        for (Class<?> one : inside) {
            int modifiers = one.getModifiers();
            CHECK.due(one + " is static", true, Modifier.isStatic(modifiers));
            CHECK.due(one + " is no part of the face", true,
                    !Modifier.isPublic(modifiers) && !Modifier.isProtected(modifiers));
            for (Field field : one.getDeclaredFields()) {
                if (Modifier.isStatic(field.getModifiers())) {
                    CHECK.due(field + " is final", true, Modifier.isFinal(field.getModifiers()));
                }
            }
        }
    }

    private static List<Class<?>> allClasses() {
        List<Class<?>> all = new ArrayList<>();
        all.add(FixtureOrder.class);
        Collections.addAll(all, FixtureOrder.class.getDeclaredClasses());
        return all;
    }

    private static void sizes() {
        for (Class<?> one : allClasses()) {
            int fields = 0;
            for (Field field : one.getDeclaredFields()) {
                fields += Modifier.isStatic(field.getModifiers()) ? 0 : 1;
            }
            CHECK.due(one + " has at most twenty fields", true, fields <= 20);
            for (Method method : one.getDeclaredMethods()) {
                CHECK.due(method + " takes at most seven", true, method.getParameterCount() <= 7);
            }
        }
    }

    private static void names() {
        List<String> ofTheFace = new ArrayList<>();
        for (Method method : FixtureOrder.class.getDeclaredMethods()) {
            if (Modifier.isPublic(method.getModifiers())) {
                ofTheFace.add(method.getName());
            }
        }
        for (Class<?> one : allClasses()) {
            for (Method method : one.getDeclaredMethods()) {
                boolean bears = Modifier.isPrivate(method.getModifiers()) && ofTheFace.contains(method.getName());
                CHECK.due(method + " bears the name of a public one", false, bears);
            }
        }
    }

    private static void imports() throws IOException {
        for (String line : Files.readAllLines(Path.of("src/main/java/FixtureOrder.java"))) {
            if (line.startsWith("import ")) {
                CHECK.due("'" + line + "' is in the library that LANGUAGE.md leaves", true,
                        line.matches("import java\\.util\\.(Arrays|ArrayList|List|Iterator);"));
            }
        }
    }

    private static void words() throws IOException {
        String code = Files.readString(Path.of("src/main/java/FixtureOrder.java"))
                .replaceAll("(?s)/\\*.*?\\*/", "").replaceAll("//.*", "");
        Matcher ruledOut = Pattern.compile(
                "\\b(throw|throws|try|catch|synchronized|assert|package|\\w+Exact|System\\.(?!arraycopy)\\w+)\\b|->|::")
                .matcher(code);
        CHECK.dueText("words that LANGUAGE.md rules out", "", ruledOut.find() ? ruledOut.group() : "");
    }
}
