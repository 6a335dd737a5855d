import java.lang.reflect.Constructor;
import java.lang.reflect.Field;
import java.lang.reflect.Method;
import java.lang.reflect.Modifier;
import java.nio.file.Files;
import java.nio.file.Path;
import java.util.Arrays;
import java.util.Set;
import java.util.TreeSet;

/** The public face, and those rules of LANGUAGE.md that can be read off the class and its source. */
public final class FaceTest {
    private static final Checks CHECKS = new Checks();
    private static final String[] FACE = {
        "type 1", "clear 0", "signal 0", "sample 1", "condition 5", "modes 2", "holds 1", "records 2", "undo 0",
        "fires 2", "trigger 1", "record 2", "mean 2", "joined 2", "measure 3", "alias 1", "sees 2", "forget 0",
        "unseen 0", "keep 1", "back 1", "told 2", "count 1"};
    private static final String[] FORBIDDEN_WORDS = {
        "throw", "throws", "try", "catch", "synchronized", "assert", "finally", "native", "hashCode", "System.out",
        "System.nanoTime", "System.currentTimeMillis", "Random", "Thread"};
    private static final Set<String> IMPORTS = Set.of("import java.util.ArrayList;", "import java.util.List;",
            "import java.util.Arrays;", "import java.util.Iterator;");

    public static void main(String[] args) throws Exception {
        face();
        insideClasses();
        source();
        CHECKS.end();
    }

    private static void face() {
        Class<?> type = TriggerScopes.class;
        CHECKS.isTrue("the class is public and final",
                Modifier.isPublic(type.getModifiers()) && Modifier.isFinal(type.getModifiers()));
        Constructor<?>[] constructors = type.getDeclaredConstructors();
        CHECKS.due("constructors", constructors.length, 1);
        CHECKS.isTrue("the constructor is public and takes nothing",
                Modifier.isPublic(constructors[0].getModifiers()) && constructors[0].getParameterCount() == 0);
        Set<String> found = new TreeSet<>();
        Set<String> publicNames = new TreeSet<>();
        for (Method method : type.getDeclaredMethods()) {
            if (Modifier.isPublic(method.getModifiers())) {
                found.add(method.getName() + " " + method.getParameterCount());
                publicNames.add(method.getName());
                CHECKS.isTrue(method + " answers an int", method.getReturnType() == int.class);
            } else if (!method.isSynthetic()) {
                CHECKS.isTrue(method + " is private", Modifier.isPrivate(method.getModifiers()));
            }
        }
        CHECKS.isTrue("the public methods are the document's: " + found,
                found.equals(new TreeSet<>(Arrays.asList(FACE))));
        for (Method method : type.getDeclaredMethods()) {
            if (!Modifier.isPublic(method.getModifiers())) {
                CHECKS.isTrue(method + " bears no public name", !publicNames.contains(method.getName()));
            }
        }
        Set<String> constants = new TreeSet<>();
        for (Field field : type.getDeclaredFields()) {
            if (!Modifier.isPrivate(field.getModifiers())) {
                constants.add(field.getName());
            }
        }
        CHECKS.isTrue("the constants are the document's: " + constants,
                constants.equals(new TreeSet<>(Arrays.asList("BAD", "STATE", "FULL", "NONE"))));
        CHECKS.answers("the constants' numbers",
                new int[] {TriggerScopes.BAD, TriggerScopes.STATE, TriggerScopes.FULL, TriggerScopes.NONE}, -1, -2, -3, -9);
    }

    private static void insideClasses() {
        Class<?>[] inside = TriggerScopes.class.getDeclaredClasses();
        CHECKS.isTrue("at most twelve classes", inside.length < 12);
        limits(TriggerScopes.class);
        for (Class<?> type : inside) {
            CHECKS.isTrue(type + " is static", Modifier.isStatic(type.getModifiers()));
            limits(type);
        }
    }

    private static void limits(Class<?> type) {
        int fields = 0;
        for (Field field : type.getDeclaredFields()) {
            if (Modifier.isStatic(field.getModifiers())) {
                CHECKS.isTrue(field + " is final", Modifier.isFinal(field.getModifiers()));
            } else {
                fields++;
            }
        }
        CHECKS.isTrue(type + " has at most twenty fields", fields <= 20);
        for (Method method : type.getDeclaredMethods()) {
            CHECKS.isTrue(method + " takes at most seven", method.getParameterCount() <= 7);
            CHECKS.isTrue(method + " is no lambda", !method.getName().startsWith("lambda$"));
        }
    }

    private static void source() throws Exception {
        String source = Files.readString(Path.of("src/main/java/TriggerScopes.java"));
        String code = source.replaceAll("(?s)/\\*.*?\\*/", "").replaceAll("//[^\n]*", "");
        for (String word : FORBIDDEN_WORDS) {
            CHECKS.isTrue("the code is without " + word, !code.matches("(?s).*\\b" + word.replace(".", "\\.") + "\\b.*"));
        }
        for (String sign : new String[] {"::", "Exact(", "package "}) {
            CHECKS.isTrue("the code is without " + sign, !code.contains(sign));
        }
        for (String line : code.split("\n")) {
            if (line.startsWith("import ")) {
                CHECKS.isTrue(line + " is allowed", IMPORTS.contains(line.trim()));
            }
        }
        for (int i = 0; i < source.length(); i++) {
            if (source.charAt(i) > 126) {
                CHECKS.isTrue("sign " + (int) source.charAt(i) + " at " + i + " is plain", false);
            }
        }
    }
}
