import java.io.IOException;
import java.lang.reflect.Constructor;
import java.lang.reflect.Executable;
import java.lang.reflect.Field;
import java.lang.reflect.Method;
import java.lang.reflect.Modifier;
import java.nio.file.Files;
import java.nio.file.Path;
import java.util.Set;
import java.util.TreeSet;
import java.util.regex.Pattern;
import java.util.stream.Stream;

/** The public face as the document writes it, and rules of LANGUAGE.md that can be seen from outside or in the text. */
public final class FaceTest {
    private static final Checks CHECKS = new Checks();
    private static final String[] RULED_OUT = {
        "->", "::", "\\bfinally\\b", "\\bsynchronized\\b", "\\bassert\\b", "\\bcatch\\b", "Exact\\b", "\\brecord\\b",
        "static \\{", "\\bSystem\\.(?!arraycopy)", "\\bRandom\\b", "\\bThread\\b", "\\bMath\\.random\\b",
    };

    public static void main(String[] args) throws IOException {
        face();
        members(DeltaPress.class);
        for (Class<?> inside : DeltaPress.class.getDeclaredClasses()) {
            int modifiers = inside.getModifiers();
            CHECKS.due("1: " + inside + " is static, not public", Modifier.isStatic(modifiers)
                    && !Modifier.isPublic(modifiers) && !Modifier.isProtected(modifiers) ? 1 : 0, 1);
            members(inside);
        }
        CHECKS.due("11: some twelve classes", DeltaPress.class.getDeclaredClasses().length < 12 ? 1 : 0, 1);
        source();
        CHECKS.finish();
    }

    private static void face() throws IOException {
        Set<String> got = new TreeSet<>();
        Stream.of(DeltaPress.class.getDeclaredMethods(), DeltaPress.class.getDeclaredConstructors())
                .flatMap(Stream::of)
                .filter(member -> !Modifier.isPrivate(member.getModifiers()))
                .forEach(member -> got.add(member.toString().replace("DeltaPress.", "").replace("java.lang.", "")));
        CHECKS.due("1: the methods and constructors", String.join("\n", got), String.join("\n", faceOfDocument()));
        CHECKS.due("1: the class", Modifier.toString(DeltaPress.class.getModifiers()), "public final");
        for (Field field : DeltaPress.class.getDeclaredFields()) {
            CHECKS.due("1: " + field + " is private", Modifier.isPrivate(field.getModifiers()) ? 1 : 0, 1);
        }
    }

    /** As the document writes it, without the names of the parameters. */
    private static Set<String> faceOfDocument() throws IOException {
        Set<String> face = new TreeSet<>();
        for (String line : Document.face()) {
            face.add(line.replaceAll("(\\bint) \\w+(, |\\))", "$1$2").replace(", ", ",").replace(";", ""));
        }
        CHECKS.due("the document's face has ten methods and a constructor", face.size(), 11);
        return face;
    }

    private static void members(Class<?> type) {
        Set<String> open = new TreeSet<>();
        for (Method method : DeltaPress.class.getMethods()) {
            open.add(method.getName());
        }
        int ownFields = 0;
        for (Field field : type.getDeclaredFields()) {
            boolean isStatic = Modifier.isStatic(field.getModifiers());
            ownFields += isStatic ? 0 : 1;
            CHECKS.due("5: " + field, isStatic && !Modifier.isFinal(field.getModifiers()) ? 1 : 0, 0);
        }
        CHECKS.due("11: fields of " + type, ownFields <= 20 ? 1 : 0, 1);
        for (Method method : type.getDeclaredMethods()) {
            boolean isHidden = !Modifier.isPublic(method.getModifiers());
            CHECKS.due("1: " + method, isHidden && open.contains(method.getName()) ? 1 : 0, 0);
            parameters(method);
        }
        for (Constructor<?> constructor : type.getDeclaredConstructors()) {
            parameters(constructor);
        }
    }

    private static void parameters(Executable called) {
        CHECKS.due("11: " + called, called.getParameterCount() <= 7 ? 1 : 0, 1);
    }

    private static void source() throws IOException {
        String text = Files.readString(Path.of("src/main/java/DeltaPress.java"));
        String code = text.replaceAll("(?s)/\\*.*?\\*/|//[^\n]*|\"[^\"]*\"", "");
        for (String pattern : RULED_OUT) {
            CHECKS.due("the class has no " + pattern, Pattern.compile(pattern).matcher(code).find() ? 1 : 0, 0);
        }
        String imports = code.lines().filter(line -> line.startsWith("import")).toList().toString();
        CHECKS.due("4: the imports", imports, "[]");
        CHECKS.due("no package", code.contains("package ") ? 1 : 0, 0);
    }
}
