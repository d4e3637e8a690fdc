import java.io.IOException;
import java.lang.reflect.Constructor;
import java.lang.reflect.Field;
import java.lang.reflect.Method;
import java.lang.reflect.Modifier;
import java.nio.file.Files;
import java.nio.file.Path;
import java.util.ArrayList;
import java.util.HashSet;
import java.util.List;
import java.util.Set;
import java.util.TreeSet;
import java.util.regex.Matcher;
import java.util.regex.Pattern;

/** Rules of LANGUAGE.md that can be seen in the program's text or in its compiled face. */
public final class BodyCornersRules {
    private static final String[] FACE = {
        "int point int int int int", "int wipe", "int body int", "int cut int int int int int int",
        "int slice int int int", "int shadow int int", "int raise int int int", "int product int int",
        "int both int int", "int about int int", "int corner int int int", "int count int", "int faces int int",
        "int face int int int", "int lies int int int int", "int h int int", "int sum int", "int same int int",
        "int inside int int", "int pattern int", "int set int", "int place int", "int row int", "int clear",
        "int meets int", "int fresh int int", "int walk int int int", "int far int", "int tilt int int int int",
        "int up int int int", "long ups int int int", "int ring int int", "int where int", "int parted int",
        "int holds int int", "long size int", "long piece int int int", "int whole int int int",
        "int feed int long", "int read", "int fault", "int claim int"};
    private static final String[] CONSTANTS = {"NONE", "UNKNOWN", "OUTSIDE", "NOT", "FULL", "LARGE"};
    private static final int[] VALUES = {-1, -1001, -1002, -1003, -1004, -1005};
    private static final String[] FORBIDDEN = {"throw", "throws", "try", "catch", "finally", "synchronized", "assert",
        "transient", "volatile", "native", "strictfp", "Random", "Thread", "Object", "HashMap", "Exception", "hashCode",
        "nanoTime", "currentTimeMillis", "File", "package"};

    private static int passed = 0;
    private static int failed = 0;

    private static void due(String what, boolean holds) {
        if (holds) {
            passed++;
        } else {
            failed++;
            System.out.println("not so: " + what);
        }
    }

    private static String signature(Method method) {
        StringBuilder out = new StringBuilder(method.getReturnType() + " " + method.getName());
        for (Class<?> parameter : method.getParameterTypes()) {
            out.append(' ').append(parameter);
        }
        return out.toString();
    }

    private static void face() throws IllegalAccessException {
        Set<String> open = new TreeSet<>();
        for (Method method : BodyCorners.class.getDeclaredMethods()) {
            if (!Modifier.isPrivate(method.getModifiers())) {
                due(method + " is public", Modifier.isPublic(method.getModifiers()));
                open.add(signature(method));
            }
        }
        due("the methods are the document's: " + open, open.equals(new TreeSet<>(List.of(FACE))));
        Set<String> fields = new HashSet<>();
        for (Field field : BodyCorners.class.getDeclaredFields()) {
            if (!Modifier.isPrivate(field.getModifiers())) {
                fields.add(field.getName());
            }
        }
        due("the constants are the document's: " + fields, fields.equals(new HashSet<>(List.of(CONSTANTS))));
        for (int k = 0; k < CONSTANTS.length; k++) {
            try {
                due(CONSTANTS[k], BodyCorners.class.getField(CONSTANTS[k]).getInt(null) == VALUES[k]);
            } catch (NoSuchFieldException missing) {
                due(CONSTANTS[k] + " is there", false);
            }
        }
        Constructor<?>[] constructors = BodyCorners.class.getConstructors();
        due("one constructor", constructors.length == 1 && constructors[0].getParameterCount() == 0);
        due("final", Modifier.isFinal(BodyCorners.class.getModifiers()));
    }

    private static void names() {
        Set<String> taken = new HashSet<>();
        for (String signature : FACE) {
            taken.add(signature.split(" ")[1]);
        }
        List<Class<?>> classes = new ArrayList<>(List.of(BodyCorners.class.getDeclaredClasses()));
        due("some twelve classes", classes.size() <= 11);
        for (Class<?> inner : classes) {
            due(inner + " is static", Modifier.isStatic(inner.getModifiers()));
            for (Method method : inner.getDeclaredMethods()) {
                due(method + " has a name of its own", !taken.contains(method.getName()));
            }
        }
        classes.add(BodyCorners.class);
        for (Class<?> each : classes) {
            int fields = 0;
            for (Field field : each.getDeclaredFields()) {
                fields += Modifier.isStatic(field.getModifiers()) ? 0 : 1;
                due(field + " is final, if static",
                        !Modifier.isStatic(field.getModifiers()) || Modifier.isFinal(field.getModifiers()));
            }
            due(each + " has some twenty fields", fields <= 20);
            for (Method method : each.getDeclaredMethods()) {
                due(method + " takes seven at most", method.getParameterCount() <= 7);
            }
        }
    }

    /** The text without comments and without what stands in quotes. */
    private static String bare(String text) {
        return text.replaceAll("(?s)/\\*.*?\\*/", "").replaceAll("//[^\n]*", "").replaceAll("\"[^\"\n]*\"", "\"\"")
                .replaceAll("'[^'\n]'", "' '");
    }

    private static void words(String text) {
        for (String word : FORBIDDEN) {
            due("without " + word, !Pattern.compile("\\b" + word + "\\b").matcher(text).find());
        }
        due("without lambdas", !text.contains("->"));
        due("without method references", !text.contains("::"));
        due("without names ending in Exact", !text.contains("Exact"));
        Matcher imports = Pattern.compile("(?m)^import (.*);").matcher(text);
        while (imports.find()) {
            due("import of " + imports.group(1), imports.group(1).equals("java.util.Arrays"));
        }
        Matcher library = Pattern.compile("\\b(Arrays|Math|Integer|Long|System)\\.(\\w+)").matcher(text);
        Set<String> allowed = Set.of("Arrays.copyOf", "Arrays.fill", "Math.max", "Math.min", "Math.abs", "Math.floorDiv",
                "Integer.bitCount", "System.arraycopy");
        while (library.find()) {
            due("use of " + library.group(), allowed.contains(library.group()));
        }
    }

    /** A method's lines, from its head to the brace that closes it. */
    private static void lengths(String text) {
        String[] lines = text.split("\n");
        Pattern head = Pattern.compile("^( +)[^=;]*\\) \\{$");
        for (int at = 0; at < lines.length; at++) {
            Matcher found = head.matcher(lines[at]);
            if (found.matches() && !lines[at].trim().matches("(\\} else )?(if|for|while|switch) .*")) {
                int end = at;
                while (end < lines.length - 1 && !lines[end].equals(found.group(1) + "}")) {
                    end++;
                }
                due("short enough: " + lines[at].trim(), end - at <= 60);
            }
        }
    }

    public static void main(String[] args) throws IOException, IllegalAccessException {
        String text = Files.readString(Path.of("src/main/java/BodyCorners.java"));
        face();
        names();
        words(bare(text));
        lengths(text);
        due("signs 1 to 127 alone", text.chars().allMatch(sign -> sign < 128));
        System.out.println(passed + " passed, " + failed + " failed");
        if (failed != 0) {
            System.exit(1);
        }
    }
}
