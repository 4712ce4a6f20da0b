import java.io.IOException;
import java.lang.reflect.Constructor;
import java.lang.reflect.Field;
import java.lang.reflect.Method;
import java.lang.reflect.Modifier;
import java.nio.file.Files;
import java.nio.file.Path;
import java.util.Arrays;
import java.util.Set;
import java.util.TreeSet;
import java.util.regex.Matcher;
import java.util.regex.Pattern;

// The public face is the document's and nothing more, and the file keeps to what LANGUAGE.md lets it use.
public final class FaceTest {
    private static final String[] FACE = {
        "boolean type(char)", "int quote(int)", "void clear()", "int length()", "int post(int, int)", "int write(int)",
        "int published()", "boolean erase(int)", "int pack(int)", "int search()", "int next(int)", "int left(int)",
        "boolean close(int)", "int form(int)", "int size(int)", "int terms(int)", "int postings(int)"};
    private static final String[] FORBIDDEN = {"\\bthrow\\b", "\\btry\\b", "\\bcatch\\b", "\\bsynchronized\\b",
        "\\bassert\\b", "\\bpackage\\b", "->", "::", "\\bprotected\\b", "static \\{"};

    private static int wrong;

    public static void main(String[] args) throws IOException {
        outside();
        methods();
        inside(PostIndex.class);
        source(Files.readString(Path.of("src/main/java/PostIndex.java")));
        System.out.println(wrong == 0 ? "the face is as due" : wrong + " faults");
        if (wrong != 0) {
            System.exit(1);
        }
    }

    private static void outside() {
        int modifiers = PostIndex.class.getModifiers();
        check("the class is public and final", Modifier.isPublic(modifiers) && Modifier.isFinal(modifiers));
        Constructor<?>[] made = PostIndex.class.getDeclaredConstructors();
        check("one constructor, public, without parameters",
                made.length == 1 && Modifier.isPublic(made[0].getModifiers()) && made[0].getParameterCount() == 0);
        for (Field field : PostIndex.class.getDeclaredFields()) {
            check("private field " + field.getName(), Modifier.isPrivate(field.getModifiers()));
        }
    }

    private static void methods() {
        Set<String> seen = new TreeSet<>();
        Set<String> names = new TreeSet<>();
        for (Method method : PostIndex.class.getDeclaredMethods()) {
            if (Modifier.isPublic(method.getModifiers())) {
                String parameters = Arrays.toString(method.getParameterTypes());
                seen.add(method.getReturnType() + " " + method.getName()
                        + "(" + parameters.substring(1, parameters.length() - 1) + ")");
                names.add(method.getName());
                check("no static face: " + method.getName(), !Modifier.isStatic(method.getModifiers()));
            }
        }
        check("the face is " + seen, seen.equals(new TreeSet<>(Arrays.asList(FACE))));
        for (Method method : PostIndex.class.getDeclaredMethods()) {
            boolean open = Modifier.isPublic(method.getModifiers());
            check("private method " + method.getName(), open || Modifier.isPrivate(method.getModifiers()));
            check("a name of the face for " + method, open || !names.contains(method.getName()));
        }
        for (Class<?> inner : PostIndex.class.getDeclaredClasses()) {
            for (Method method : inner.getDeclaredMethods()) {
                check("a name of the face for " + method,
                        !Modifier.isPrivate(method.getModifiers()) || !names.contains(method.getName()));
            }
        }
    }

    private static void inside(Class<?> outer) {
        Class<?>[] inner = outer.getDeclaredClasses();
        check("at most twelve classes", inner.length <= 11);
        for (Class<?> one : inner) {
            check("static class " + one.getName(), Modifier.isStatic(one.getModifiers()));
            fields(one);
        }
        fields(outer);
    }

    private static void fields(Class<?> owner) {
        int own = 0;
        for (Field field : owner.getDeclaredFields()) {
            boolean fixed = Modifier.isStatic(field.getModifiers());
            check("static and final: " + field, !fixed || Modifier.isFinal(field.getModifiers()));
            own += fixed ? 0 : 1;
        }
        check("at most twenty fields in " + owner.getName(), own <= 20);
        for (Method method : owner.getDeclaredMethods()) {
            check("at most seven parameters: " + method, method.getParameterCount() <= 7);
        }
    }

    private static void source(String text) {
        String code = text.replaceAll("(?s)/\\*.*?\\*/", " ").replaceAll("//[^\n]*", " ")
                .replaceAll("(case [^;{}>]*|default *)->", " ");
        for (String forbidden : FORBIDDEN) {
            Matcher found = Pattern.compile(forbidden).matcher(code);
            check("not in the file: " + forbidden, !found.find());
        }
        check("no joining of texts by +", !Pattern.compile("\"\\s*\\+|\\+\\s*\"").matcher(code).find());
    }

    private static void check(String what, boolean holds) {
        if (!holds) {
            wrong++;
            System.out.println("not so: " + what);
        }
    }
}
