import java.io.IOException;
import java.lang.management.ManagementFactory;
import java.lang.reflect.Field;
import java.lang.reflect.Method;
import java.lang.reflect.Modifier;
import java.nio.file.Files;
import java.nio.file.Path;
import java.util.Set;
import java.util.TreeSet;

/** The class's face, the rules of LANGUAGE.md that can be read off the text, and what calls allocate. */
public final class RulesTest {
    private static final Path SOURCE = Path.of("src/main/java/ShadowLeases.java");
    private static final Set<String> FACE = Set.of(
        "int build(int,int,int,int,int,int)", "int tearDown(int)", "int raise(int,int)",
        "int setSun(int,int,int,int)", "int building(int,int)", "int shade(int,int,int)",
        "int shades(int,int,int)", "int area(int,int)", "int inHour(int,int)",
        "int let(int,int,int,int,int,int)", "int end(int)", "int setPrice(int,int)",
        "int lease(int,int)", "int gets(int,int)", "int cellOf(int,int,int)", "int pass(int)",
        "int count(int)", "int got(int)", "int paid(int)", "int advise(int,int,int,int)",
        "int wouldGet(int,int)", "double fulfilled()", "long digest()");
    private static final String[] BARRED = {
        "->", "::", "try", "catch", "finally", "synchronized", "assert", "package", "record",
        "protected", "String.valueOf", "equals", "hashCode", "toString", "System.", "Exact(", " var ",
    };
    private static final Checks CHECKS = new Checks("RulesTest");

    public static void main(String[] args) throws IOException {
        checkFace();
        checkInside();
        checkText(Files.readString(SOURCE));
        checkRoom();
        CHECKS.finish();
    }

    private static String signature(Method method) {
        StringBuilder text = new StringBuilder();
        text.append(method.getReturnType().getName()).append(' ').append(method.getName()).append('(');
        String comma = "";
        for (Class<?> type : method.getParameterTypes()) {
            text.append(comma).append(type.getName());
            comma = ",";
        }
        return text.append(')').toString();
    }

    private static void checkFace() {
        Class<?> face = ShadowLeases.class;
        CHECKS.is("the class is public and final", face.getModifiers(), Modifier.PUBLIC | Modifier.FINAL);
        CHECKS.is("constructors", face.getDeclaredConstructors().length, 1);
        CHECKS.is("public constructors", face.getConstructors().length, 1);
        Set<String> open = new TreeSet<>();
        Set<String> names = new TreeSet<>();
        for (Method method : face.getDeclaredMethods()) {
            if (Modifier.isPublic(method.getModifiers())) {
                open.add(signature(method));
                names.add(method.getName());
            }
        }
        CHECKS.isTrue("the face is " + open, open.equals(FACE));
        for (Method method : face.getDeclaredMethods()) {
            if (!Modifier.isPublic(method.getModifiers())) {
                CHECKS.isTrue(method + " is private", Modifier.isPrivate(method.getModifiers()));
                CHECKS.isTrue(method + " has its own name", !names.contains(method.getName()));
            }
        }
        for (Field field : face.getDeclaredFields()) {
            CHECKS.isTrue(field + " is private", Modifier.isPrivate(field.getModifiers()));
        }
    }

    private static void checkInside() {
        Class<?>[] inside = ShadowLeases.class.getDeclaredClasses();
        CHECKS.isTrue("at most twelve classes", inside.length < 12);
        for (Class<?> one : inside) {
            CHECKS.isTrue(one + " is static", Modifier.isStatic(one.getModifiers()));
            CHECKS.isTrue(one + " is not open", !Modifier.isPublic(one.getModifiers()));
            CHECKS.isTrue(one + " has few fields", one.getDeclaredFields().length <= 20);
            for (Method method : one.getDeclaredMethods()) {
                CHECKS.isTrue(method + " has few parameters", method.getParameterCount() <= 7);
            }
            for (Field field : one.getDeclaredFields()) {
                CHECKS.isTrue(field + " is of the object", !Modifier.isStatic(field.getModifiers()));
            }
        }
    }

    private static void checkText(String text) {
        StringBuilder code = new StringBuilder();
        for (String line : text.split("\n")) {
            String bare = line.strip();
            if (!bare.startsWith("//") && !bare.startsWith("/**")) {
                code.append(line).append('\n');
            }
            CHECKS.isTrue("all signs are plain: " + line, line.chars().allMatch(sign -> sign >= 32 && sign < 127));
        }
        for (String word : BARRED) {
            CHECKS.isTrue("the program says " + word, code.indexOf(word) < 0);
        }
        for (String line : code.toString().split("\n")) {
            if (line.startsWith("import ")) {
                CHECKS.isTrue(line, Set.of("import java.util.ArrayList;", "import java.util.Arrays;").contains(line));
            }
        }
    }

    private static long allocated() {
        return ((com.sun.management.ThreadMXBean) ManagementFactory.getThreadMXBean()).getThreadAllocatedBytes(
            Thread.currentThread().getId());
    }

    /** A full registry's dearest calls must make nothing: all that they need stands since the constructor. */
    private static void checkRoom() {
        ShadowLeases x = new ShadowLeases();
        for (int i = 0; i < 12; i++) {
            x.build(i % 4 * 4, i / 4 * 5, 2, 2, 9, i % 8);
        }
        for (int i = 0; i < 40; i++) {
            x.let(i % 12, i % 16, i % 6, 6 + i % 6, 60, 1 + i);
        }
        long sum = askAll(x, 3);
        long before = allocated();
        sum += askAll(x, 50);
        long made = allocated() - before;
        CHECKS.isTrue("calls make objects: " + made + " bytes", made < 10_000);
        CHECKS.isTrue("an answer", sum != 0);
    }

    private static long askAll(ShadowLeases x, int times) {
        long sum = 0;
        for (int i = 0; i < times; i++) {
            x.raise(i % 12, 1 + i % 9);
            x.setSun(i % 12, 1, 1, 6);
            sum += x.digest() + x.wouldGet(i % 12, 9) + x.advise(0, 11, 50, 1) + x.cellOf(39, 8, 3);
            sum += x.pass(i % 20 == 0 ? 2 : 1) + (long) (x.fulfilled() * 1000);
        }
        return sum;
    }
}
