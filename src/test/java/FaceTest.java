import java.io.IOException;
import java.lang.reflect.Member;
import java.lang.reflect.Modifier;
import java.nio.file.Files;
import java.nio.file.Path;
import java.util.ArrayList;
import java.util.List;
import java.util.Map;
import java.util.Set;
import java.util.TreeSet;
import java.util.regex.Matcher;
import java.util.regex.Pattern;

/** The public face of the document, and those rules of LANGUAGE.md that can be seen without reading. */
final class FaceTest {
    private static final Checks CHECKS = new Checks("FaceTest");
    private static final Set<String> FACE = Set.of("feed(int,int,int,int,int)int", "end(int)int", "make(int,int,int)int",
        "set(int,int,int,int,int)int", "fill(int,int,int,int,int,int,int)int", "wipe(int,int,int)int", "commit()int",
        "open(int)int", "drop(int)int", "differ(int,int)int", "get(int,int,int,int,int)long", "query()int", "rows()int",
        "cell(int,int)long", "count(int)int");
    private static final Map<String, Integer> CONSTANTS = Map.of("REFUSED", -1, "NONE", -2, "FULL", -3, "THERE", -4);
    private static final Set<Class<?>> NUMBERS = Set.of(int.class, long.class, short.class, byte.class, char.class, double.class,
        float.class);
    private static final Set<String> LIBRARY = Set.of("Math.min", "Math.max", "Math.abs", "System.arraycopy", "Arrays.fill",
        "Arrays.copyOf", "Arrays.copyOfRange");

    public static void main(String[] args) throws ReflectiveOperationException, IOException {
        face();
        constants();
        constructor();
        classesInside();
        types();
        staticFields();
        source();
        CHECKS.close();
    }

    private static void yes(String what, boolean got) {
        CHECKS.due(what, got ? 1 : 0, 1);
    }

    private static void face() {
        Class<?> vault = ArrayVault.class;
        yes("public and final", Modifier.isPublic(vault.getModifiers()) && Modifier.isFinal(vault.getModifiers()));
        Set<String> methods = new TreeSet<>();
        for (var m : vault.getDeclaredMethods()) {
            if (!Modifier.isPrivate(m.getModifiers())) {
                yes(m.getName() + " is public and not static",
                    Modifier.isPublic(m.getModifiers()) && !Modifier.isStatic(m.getModifiers()));
                methods.add(m.getName() + List.of(m.getParameterTypes()).toString().replace("[", "(").replace("]", ")")
                    .replace(" ", "") + m.getReturnType());
            }
        }
        yes("the methods are the face: " + methods, methods.equals(new TreeSet<>(FACE)));
    }

    private static void constants() throws IllegalAccessException {
        Set<String> found = new TreeSet<>();
        for (var f : ArrayVault.class.getDeclaredFields()) {
            if (!Modifier.isPrivate(f.getModifiers())) {
                found.add(f.getName());
                yes(f.getName() + " is a public constant", Modifier.isPublic(f.getModifiers())
                    && Modifier.isStatic(f.getModifiers()) && Modifier.isFinal(f.getModifiers()) && f.getType() == int.class);
                CHECKS.due(f.getName(), f.getInt(null), CONSTANTS.getOrDefault(f.getName(), 0));
            }
        }
        yes("the constants are the face: " + found, found.equals(CONSTANTS.keySet()));
    }

    private static void constructor() {
        CHECKS.due("declared constructors", ArrayVault.class.getDeclaredConstructors().length, 1);
        CHECKS.due("public constructors", ArrayVault.class.getConstructors().length, 1);
        CHECKS.due("its parameters", ArrayVault.class.getDeclaredConstructors()[0].getParameterCount(), 0);
    }

    private static List<Class<?>> classes() {
        List<Class<?>> classes = new ArrayList<>(List.of(ArrayVault.class.getDeclaredClasses()));
        classes.add(ArrayVault.class);
        return classes;
    }

    private static void classesInside() {
        List<Class<?>> classes = classes();
        yes("some twelve classes", classes.size() <= 13);
        for (Class<?> c : classes) {
            yes(c + " is static and not public", c == ArrayVault.class
                || Modifier.isStatic(c.getModifiers()) && !Modifier.isPublic(c.getModifiers()) && !Modifier.isProtected(c.getModifiers()));
            int fields = 0;
            for (var f : c.getDeclaredFields()) {
                yes("static fields are final: " + f, !Modifier.isStatic(f.getModifiers()) || Modifier.isFinal(f.getModifiers()));
                fields += Modifier.isStatic(f.getModifiers()) ? 0 : 1;
            }
            yes(c + " has some twenty fields", fields <= 20);
            for (var m : c.getDeclaredMethods()) {
                yes(m + " takes at most seven", m.getParameterCount() <= 7);
                yes(m + " does not bear a name of the face", c == ArrayVault.class || !isOfFace(m));
            }
        }
    }

    /** Rule 3, of fields, parameters and answers. */
    private static void types() {
        for (Class<?> c : classes()) {
            for (var f : c.getDeclaredFields()) {
                yes("a type that is allowed: " + f, isAllowed(f.getType()));
            }
            for (var m : c.getDeclaredMethods()) {
                yes("an answer that is allowed: " + m, m.getReturnType() == void.class || isAllowed(m.getReturnType()));
                for (var p : m.getParameterTypes()) {
                    yes("a parameter that is allowed: " + m, isAllowed(p));
                }
            }
        }
    }

    private static boolean isAllowed(Class<?> type) {
        if (!type.isArray()) {
            return isPlain(type);
        }
        Class<?> of = type.getComponentType();
        return of.isArray() ? NUMBERS.contains(of.getComponentType()) : isPlain(of);
    }

    private static boolean isPlain(Class<?> type) {
        return NUMBERS.contains(type) || type == boolean.class || type == String.class || classes().contains(type);
    }

    /** Rule 5, and rule 2 on the fields of enums; the row of an enum's constants that rule 12 asks for is one of its class. */
    private static void staticFields() {
        Set<Class<?>> constants = Set.of(int.class, long.class, boolean.class, char.class, String.class);
        Set<Class<?>> rows = Set.of(int[].class, long[].class, char[].class, byte[].class);
        for (Class<?> c : classes()) {
            for (var f : c.getDeclaredFields()) {
                Class<?> type = f.getType();
                if (Modifier.isStatic(f.getModifiers())) {
                    boolean ofEnum = c.isEnum() && (type == c || type == c.arrayType());
                    yes("a static field that is allowed: " + f, ofEnum || constants.contains(type) || rows.contains(type));
                } else if (c.isEnum()) {
                    yes("an enum's field that is allowed: " + f, constants.contains(type) && type != char.class);
                }
            }
        }
    }

    private static boolean isOfFace(Member method) {
        return FACE.stream().anyMatch(f -> f.startsWith(method.getName() + "("));
    }

    private static void source() throws IOException {
        List<String> lines = Files.readAllLines(Path.of("src/main/java/ArrayVault.java"));
        List<String> code = new ArrayList<>();
        for (String line : lines) {
            String bare = line.strip();
            if (!bare.startsWith("/**") && !bare.startsWith("*") && !bare.startsWith("//")) {
                code.add(line);
            }
        }
        String text = String.join("\n", code);
        String[] words = {"throw", "throws", "try", "catch", "synchronized", "assert", "package", "protected", "volatile",
            "native", "transient", "System.out", "Random", "Thread", "hashCode", "toString", "ordinal", "HashMap"};
        for (String word : words) {
            yes("no " + word, !text.matches("(?s).*\\b" + word.replace(".", "\\.") + "\\b.*"));
        }
        yes("no lambda or method reference", !text.contains("->") && !text.contains("::"));
        yes("no anonymous class", !text.matches("(?s).*new \\w+\\([^()]*\\) \\{.*"));
        yes("no static block", !text.contains("static {"));
        yes("no name ending in Exact", !text.matches("(?s).*Exact\\(.*"));
        Matcher calls = Pattern.compile("\\b(?:Math|System|Arrays|Integer|Long|String)\\.\\w+").matcher(text);
        while (calls.find()) {
            yes("the library: " + calls.group(), LIBRARY.contains(calls.group()));
        }
        yes("characters 0 to 127 alone", lines.stream().allMatch(line -> line.chars().allMatch(c -> c < 128)));
        for (String line : code) {
            yes("an import that is allowed: " + line, !line.startsWith("import") || line.equals("import java.util.Arrays;"));
        }
        CHECKS.due("longest method", Math.max(60, longestMethod(lines)), 60);
    }

    /** Methods end at a brace that stands as deep as their first line. */
    private static int longestMethod(List<String> lines) {
        int longest = 0;
        for (int i = 0; i < lines.size(); i++) {
            if (lines.get(i).matches("( {4}| {8})[A-Za-z].*\\) \\{")) {
                String close = lines.get(i).replaceAll("\\S.*", "") + "}";
                int end = i;
                while (end < lines.size() && !lines.get(end).equals(close)) {
                    end++;
                }
                longest = Math.max(longest, end - i + 1);
            }
        }
        return longest;
    }
}
