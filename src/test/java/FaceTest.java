import java.io.IOException;
import java.lang.reflect.Constructor;
import java.lang.reflect.Field;
import java.lang.reflect.Method;
import java.lang.reflect.Modifier;
import java.nio.file.Files;
import java.nio.file.Path;
import java.util.Arrays;
import java.util.Set;
import java.util.TreeSet;
import java.util.regex.Pattern;

/** The public face, and what LANGUAGE.md lets no source use. */
public final class FaceTest {
    private static final String[] FACE = {
        "int agreement() IllegalArgumentException",
        "int best()",
        "int count(int)",
        "int cuts()",
        "int days(int) IllegalArgumentException",
        "boolean end(int)",
        "int fault()",
        "int feed(int,int,int,int,int)",
        "boolean fill(int) IndexOutOfBoundsException",
        "boolean flaw(int,int,boolean) IndexOutOfBoundsException",
        "boolean hand(int,int,int) IndexOutOfBoundsException IllegalArgumentException",
        "int law() IllegalArgumentException",
        "int lay(int) IllegalArgumentException",
        "int look(int,int) IndexOutOfBoundsException NoSuchElementException",
        "int most()",
        "int part(int,int) IndexOutOfBoundsException NoSuchElementException",
        "void rough(int,int) IllegalArgumentException",
        "int sell(int,int) IndexOutOfBoundsException IllegalArgumentException",
        "int sink(int) IndexOutOfBoundsException UnsupportedOperationException",
        "int span(int,boolean) IndexOutOfBoundsException",
        "void step(int) IllegalArgumentException",
        "int stone(int,int) IndexOutOfBoundsException IllegalArgumentException IllegalStateException"
                + " UnsupportedOperationException",
        "boolean wash(int,int) IndexOutOfBoundsException IllegalArgumentException",
    };
    private static final String[] NO_SOURCE_USES = {
        "->", "::", "@", "\\bcatch\\b", "\\bfinally\\b", "\\bsynchronized\\b", "\\bassert\\b", "Exact\\(",
        "\\bpackage\\b", "\\bprotected\\b", "System\\.", "\"\\s*\\+", "\\+\\s*\"",
    };
    private static final Set<String> IMPORTS = Set.of("java.util.ArrayList", "java.util.Arrays",
            "java.util.NoSuchElementException");

    public static void main(String[] args) throws IOException {
        face();
        nothingElse();
        source();
        Check.close();
    }

    private static void face() {
        Set<String> got = new TreeSet<>();
        for (Method method : GemPits.class.getDeclaredMethods()) {
            if (Modifier.isPublic(method.getModifiers())) {
                got.add(textOf(method));
            }
        }
        for (String due : FACE) {
            Check.same("face: " + due, got.remove(due), true);
        }
        Check.same("face: nothing but " + got, got.isEmpty(), true);
    }

    private static String textOf(Method method) {
        StringBuilder text = new StringBuilder(method.getReturnType() + " " + method.getName() + "(");
        for (Class<?> each : method.getParameterTypes()) {
            text.append(text.charAt(text.length() - 1) == '(' ? "" : ",").append(each);
        }
        text.append(")");
        for (Class<?> each : method.getExceptionTypes()) {
            text.append(" ").append(each.getSimpleName());
        }
        return text.toString();
    }

    private static void nothingElse() {
        Class<GemPits> face = GemPits.class;
        Check.same("face: public and final", face.getModifiers(), Modifier.PUBLIC | Modifier.FINAL);
        Set<String> named = new TreeSet<>();
        for (Method method : face.getDeclaredMethods()) {
            boolean isPublic = Modifier.isPublic(method.getModifiers());
            Check.same("face: public or private " + method, isPublic || Modifier.isPrivate(method.getModifiers()), true);
            Check.same("face: a name of its own " + method, named.add(method.getName()), true);
        }
        for (Field field : face.getDeclaredFields()) {
            int due = field.getName().equals("NONE") ? Modifier.PUBLIC : Modifier.PRIVATE;
            Check.same("face: " + field, (field.getModifiers() & due) != 0, true);
        }
        Constructor<?>[] constructors = face.getDeclaredConstructors();
        Check.same("face: one constructor", constructors.length, 1);
        Check.same("face: it is public", Modifier.isPublic(constructors[0].getModifiers()), true);
        Check.same("language: some twelve classes", face.getDeclaredClasses().length <= 12, true);
        for (Class<?> inside : face.getDeclaredClasses()) {
            Check.same("language: fields of " + inside, Arrays.stream(inside.getDeclaredFields())
                    .filter(field -> !Modifier.isStatic(field.getModifiers())).count() <= 20, true);
            Check.same("language: static " + inside, Modifier.isStatic(inside.getModifiers()), true);
        }
    }

    private static void source() throws IOException {
        String source = Files.readString(Path.of("src/main/java/GemPits.java"))
                .replaceAll("(?s)/\\*.*?\\*/", "").replaceAll("//[^\n]*", "");
        for (String each : NO_SOURCE_USES) {
            Check.same("language: no " + each, Pattern.compile(each).matcher(source).find(), false);
        }
        for (String line : source.split("\n")) {
            if (line.startsWith("import ")) {
                Check.same("language: " + line, IMPORTS.contains(line.substring(7, line.length() - 1)), true);
            }
        }
    }
}
