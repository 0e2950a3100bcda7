import java.io.IOException;
import java.lang.reflect.Executable;
import java.lang.reflect.Field;
import java.lang.reflect.Method;
import java.lang.reflect.Modifier;
import java.nio.file.Files;
import java.nio.file.Path;
import java.util.Arrays;
import java.util.Set;
import java.util.TreeSet;
import java.util.stream.Collectors;

/** The class has the document's face and no more, and keeps to what can be seen of LANGUAGE.md. */
public final class FaceTest {
    private static final String[] FACE = {
        "boolean put(int, int)",
        "int epoch() IllegalStateException",
        "int create(int) IllegalStateException",
        "int append() IllegalStateException",
        "int finish() IllegalStateException",
        "int read(int, int, int) NoSuchElementException IllegalArgumentException"
            + " IllegalStateException UnsupportedOperationException",
        "int output(int) IndexOutOfBoundsException",
        "int verify(int) NoSuchElementException",
        "boolean rewrap(int) NoSuchElementException IllegalStateException",
        "void dropEpoch(int) IllegalArgumentException IllegalStateException",
        "void delete(int) NoSuchElementException IllegalStateException",
        "int scrub(int) IllegalArgumentException IllegalStateException",
        "void damage(int, int, int) IllegalArgumentException",
        "void spoil(int) IllegalArgumentException",
        "void stopAfter(int) IllegalArgumentException",
        "int mount()",
        "int file(int, int) NoSuchElementException IllegalArgumentException",
        "int block(int, int) IllegalArgumentException",
        "int state(int) IllegalArgumentException"};

    private static final String[] FORBIDDEN = {
        "\\btry\\b", "\\bcatch\\b", "\\bfinally\\b", "\\bsynchronized\\b", "\\bassert\\b", "->", "::",
        "\\bprotected\\b", "^package\\b", "\\bdouble\\b", "\\bfloat\\b", "Exact\\("};

    private static int wrong;

    private FaceTest() {
    }

    public static void main(String[] args) throws IOException {
        Class<TapeSealer> face = TapeSealer.class;
        Set<String> publicNames = new TreeSet<>();
        Set<String> found = new TreeSet<>();
        for (Method method : face.getDeclaredMethods()) {
            if (!Modifier.isPrivate(method.getModifiers())) {
                found.add(method.getReturnType() + " " + describe(method));
                publicNames.add(method.getName());
                check(Modifier.isPublic(method.getModifiers()), method + " is not public");
            }
        }
        check(found.equals(new TreeSet<>(Arrays.asList(FACE))), "the face is " + found);
        check(face.getDeclaredConstructors().length == 1, "more than one constructor");
        check(face.getConstructors().length == 1, "no public constructor");
        check(Modifier.isPublic(face.getModifiers()) && Modifier.isFinal(face.getModifiers()),
                "the class is not public and final");
        checkMembers(face, publicNames);
        for (Class<?> inside : face.getDeclaredClasses()) {
            check(Modifier.isStatic(inside.getModifiers()), inside + " is not static");
            checkMembers(inside, publicNames);
        }
        check(face.getDeclaredClasses().length <= 12, "more than twelve classes");
        checkSource();
        System.out.println(wrong == 0 ? "the face is as due" : wrong + " faults");
        System.exit(wrong == 0 ? 0 : 1);
    }

    private static void checkMembers(Class<?> type, Set<String> publicNames) {
        long objectFields = 0;
        for (Field field : type.getDeclaredFields()) {
            boolean isStatic = Modifier.isStatic(field.getModifiers());
            objectFields += isStatic ? 0 : 1;
            check(!isStatic || Modifier.isFinal(field.getModifiers()), field + " is not final");
            check(type != TapeSealer.class || Modifier.isPrivate(field.getModifiers()),
                    field + " is not private");
        }
        check(objectFields <= 20, type + " has more than twenty fields");
        for (Method method : type.getDeclaredMethods()) {
            check(Modifier.isPublic(method.getModifiers()) || !publicNames.contains(method.getName()),
                    method + " bears the name of a public one");
            check(method.getParameterCount() <= 7, method + " takes more than seven");
        }
    }

    private static String describe(Executable method) {
        String takes = Arrays.stream(method.getParameterTypes()).map(Class::getSimpleName)
                .collect(Collectors.joining(", "));
        String thrown = Arrays.stream(method.getExceptionTypes()).map(t -> " " + t.getSimpleName())
                .collect(Collectors.joining());
        return method.getName() + "(" + takes + ")" + thrown;
    }

    private static void checkSource() throws IOException {
        for (String line : Files.readAllLines(Path.of("src/main/java/TapeSealer.java"))) {
            boolean isComment = line.strip().startsWith("//") || line.strip().startsWith("*")
                    || line.strip().startsWith("/*");
            for (String pattern : FORBIDDEN) {
                boolean isThere = java.util.regex.Pattern.compile(pattern).matcher(line).find();
                check(isComment || !isThere, "not in the language: " + line);
            }
            check(!line.startsWith("import ") || line.equals("import java.util.Arrays;")
                    || line.equals("import java.util.NoSuchElementException;"), line);
        }
    }

    private static void check(boolean holds, String fault) {
        if (!holds) {
            wrong++;
            System.out.println(fault);
        }
    }
}
