import java.io.IOException;
import java.lang.reflect.Constructor;
import java.lang.reflect.Field;
import java.lang.reflect.Method;
import java.lang.reflect.Modifier;
import java.nio.file.Files;
import java.nio.file.Path;
import java.util.ArrayList;
import java.util.List;
import java.util.Set;
import java.util.TreeSet;
import java.util.regex.Pattern;

/** The document's public face, and the rules of LANGUAGE.md that can be seen from outside. */
public final class FaceTest {
    private static final String[] METHODS = {"type 1", "clear 0", "tells 0", "passes 1", "drafts 1", "caps 1",
        "flows 2", "undo 0", "inflow 1", "loss 1", "lowest 1", "need 1", "sure 2", "piece 2", "least 1", "round 1",
        "run 1", "odds 3", "sees 2", "forget 0", "fits 1", "look 0", "keep 1", "back 1", "count 1"};
    private static final Checks CHECKS = new Checks();

    public static void main(String[] args) throws IOException {
        constants();
        members();
        inside();
        source(Path.of(args.length > 0 ? args[0] : "src/main/java/YieldDesk.java"));
        CHECKS.end();
    }

    private static void constants() {
        CHECKS.due("BAD", -1, YieldDesk.BAD);
        CHECKS.due("STATE", -2, YieldDesk.STATE);
        CHECKS.due("FULL", -3, YieldDesk.FULL);
        CHECKS.due("NONE", -9, YieldDesk.NONE);
    }

    private static void members() {
        Set<String> face = new TreeSet<>(List.of(METHODS));
        Set<String> found = new TreeSet<>();
        for (Method method : YieldDesk.class.getDeclaredMethods()) {
            if (!Modifier.isPrivate(method.getModifiers()) && !method.isSynthetic()) {
                found.add(method.getName() + " " + method.getParameterCount());
                CHECKS.due(method + " is public, answers an int", Modifier.isPublic(method.getModifiers())
                    && !Modifier.isStatic(method.getModifiers()) && method.getReturnType() == int.class);
            }
        }
        CHECKS.due("the face is " + found, face.equals(found));
        for (Field field : YieldDesk.class.getDeclaredFields()) {
            boolean isConstant = List.of("BAD", "STATE", "FULL", "NONE").contains(field.getName());
            CHECKS.due(field + " is hidden", isConstant == !Modifier.isPrivate(field.getModifiers()));
        }
        Constructor<?>[] constructors = YieldDesk.class.getDeclaredConstructors();
        CHECKS.due("constructors", 1, constructors.length);
        CHECKS.due("it is public", Modifier.isPublic(constructors[0].getModifiers()));
        CHECKS.due("the class is final", Modifier.isFinal(YieldDesk.class.getModifiers()));
    }

    private static void inside() {
        List<Class<?>> classes = new ArrayList<>(List.of(YieldDesk.class.getDeclaredClasses()));
        CHECKS.due("at most twelve classes", classes.size() < 12);
        for (Class<?> one : classes) {
            CHECKS.due(one + " is static", Modifier.isStatic(one.getModifiers()));
            CHECKS.due(one + " has few fields", one.getDeclaredFields().length <= 20);
            for (Method method : one.getDeclaredMethods()) {
                for (String known : METHODS) {
                    CHECKS.due(method + " bears no public name", !known.startsWith(method.getName() + " "));
                }
            }
        }
        for (Class<?> one : classes) {
            for (Field field : one.getDeclaredFields()) {
                CHECKS.due(field + " is final if static", !Modifier.isStatic(field.getModifiers())
                    || Modifier.isFinal(field.getModifiers()));
            }
        }
    }

    private static void source(Path file) throws IOException {
        String code = Files.readString(file).replaceAll("(?s)/\\*.*?\\*/", "").replaceAll("//[^\n]*", "");
        String[] banned = {"\\bthrow\\b", "\\btry\\b", "\\bcatch\\b", "\\bsynchronized\\b", "\\bassert\\b", "->", "::",
            "\\bimport\\b(?! java\\.util\\.(ArrayList|List|Arrays|Iterator);)", "\\bpackage\\b", "Exact\\b",
            "\\bstatic \\{", "\\bObject\\b", "\\bvar\\b"};
        for (String word : banned) {
            CHECKS.due("no " + word, !Pattern.compile(word).matcher(code).find());
        }
        int start = 0;
        String[] rows = code.split("\n");
        for (int i = 0; i < rows.length; i++) {
            if (rows[i].matches(" {4,8}[a-z].*\\) \\{")) start = i;
            if (rows[i].matches(" {4,8}\\}")) CHECKS.due("row " + i + " ends a short method", i - start <= 60 || start == 0);
            if (rows[i].matches(" {4}private static final class .*")) start = 0;
        }
    }
}
