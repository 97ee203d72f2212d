import java.io.IOException;
import java.lang.reflect.Member;
import java.lang.reflect.Modifier;
import java.nio.file.Files;
import java.nio.file.Path;
import java.util.ArrayList;
import java.util.List;
import java.util.Set;
import java.util.TreeSet;

/** The public face of the document, and those rules of LANGUAGE.md that can be seen without reading. */
final class FaceTest {
    private static final Checks CHECKS = new Checks("FaceTest");
    private static final Set<String> FACE = Set.of("feed(int,int,int,int,int)int", "end(int)int", "make(int,int,int)int",
        "set(int,int,int,int,int)int", "fill(int,int,int,int,int,int,int)int", "wipe(int,int,int)int", "commit()int",
        "open(int)int", "drop(int)int", "differ(int,int)int", "get(int,int,int,int,int)long", "query()int", "rows()int",
        "cell(int,int)long", "count(int)int");
    private static final Set<String> CONSTANTS = Set.of("REFUSED", "NONE", "FULL", "THERE");

    public static void main(String[] args) throws IOException {
        face();
        classesInside();
        source();
        CHECKS.close();
    }

    private static void yes(String what, boolean got) {
        CHECKS.due(what, got ? 1 : 0, 1);
    }

    private static void face() {
        Class<?> vault = ArrayVault.class;
        yes("public and final", Modifier.isPublic(vault.getModifiers()) && Modifier.isFinal(vault.getModifiers()));
        Set<String> methods = new TreeSet<>();
        for (var m : vault.getDeclaredMethods()) {
            if (!Modifier.isPrivate(m.getModifiers())) {
                yes(m.getName() + " is public and not static",
                    Modifier.isPublic(m.getModifiers()) && !Modifier.isStatic(m.getModifiers()));
                methods.add(m.getName() + List.of(m.getParameterTypes()).toString().replace("[", "(").replace("]", ")")
                    .replace(" ", "") + m.getReturnType());
            }
        }
        yes("the methods are the face: " + methods, methods.equals(new TreeSet<>(FACE)));
        Set<String> fields = new TreeSet<>();
        for (var f : vault.getDeclaredFields()) {
            if (!Modifier.isPrivate(f.getModifiers())) {
                fields.add(f.getName());
                yes(f.getName() + " is a public constant", Modifier.isPublic(f.getModifiers())
                    && Modifier.isStatic(f.getModifiers()) && Modifier.isFinal(f.getModifiers()) && f.getType() == int.class);
            }
        }
        yes("the constants are the face: " + fields, fields.equals(new TreeSet<>(CONSTANTS)));
        CHECKS.due("constructors", vault.getConstructors().length, 1);
        CHECKS.due("declared constructors", vault.getDeclaredConstructors().length, 1);
    }

    private static void classesInside() {
        List<Class<?>> classes = new ArrayList<>(List.of(ArrayVault.class.getDeclaredClasses()));
        classes.add(ArrayVault.class);
        yes("some twelve classes", classes.size() <= 13);
        for (Class<?> c : classes) {
            yes(c + " is static and not public", c == ArrayVault.class
                || Modifier.isStatic(c.getModifiers()) && !Modifier.isPublic(c.getModifiers()) && !Modifier.isProtected(c.getModifiers()));
            int fields = 0;
            for (var f : c.getDeclaredFields()) {
                yes("static fields are final: " + f, !Modifier.isStatic(f.getModifiers()) || Modifier.isFinal(f.getModifiers()));
                fields += Modifier.isStatic(f.getModifiers()) ? 0 : 1;
            }
            yes(c + " has some twenty fields", fields <= 20);
            for (var m : c.getDeclaredMethods()) {
                yes(m + " takes at most seven", m.getParameterCount() <= 7);
                yes(m + " does not bear a name of the face", c == ArrayVault.class || !isOfFace(m));
            }
        }
    }

    private static boolean isOfFace(Member method) {
        return FACE.stream().anyMatch(f -> f.startsWith(method.getName() + "("));
    }

    private static void source() throws IOException {
        List<String> lines = Files.readAllLines(Path.of("src/main/java/ArrayVault.java"));
        List<String> code = new ArrayList<>();
        for (String line : lines) {
            String bare = line.strip();
            if (!bare.startsWith("/**") && !bare.startsWith("*") && !bare.startsWith("//")) {
                code.add(line);
            }
        }
        String text = String.join("\n", code);
        String[] words = {"throw", "throws", "try", "catch", "synchronized", "assert", "package", "protected", "volatile",
            "native", "transient", "System.out", "Random", "Thread", "hashCode", "toString", "ordinal", "HashMap"};
        for (String word : words) {
            yes("no " + word, !text.matches("(?s).*\\b" + word.replace(".", "\\.") + "\\b.*"));
        }
        yes("no lambda or method reference", !text.contains("->") && !text.contains("::"));
        for (String line : code) {
            yes("an import that is allowed: " + line, !line.startsWith("import") || line.equals("import java.util.Arrays;"));
        }
        CHECKS.due("longest method", Math.max(60, longestMethod(lines)), 60);
    }

    /** Methods end at a brace that stands as deep as their first line. */
    private static int longestMethod(List<String> lines) {
        int longest = 0;
        for (int i = 0; i < lines.size(); i++) {
            if (lines.get(i).matches("( {4}| {8})[A-Za-z].*\\) \\{")) {
                String close = lines.get(i).replaceAll("\\S.*", "") + "}";
                int end = i;
                while (end < lines.size() && !lines.get(end).equals(close)) {
                    end++;
                }
                longest = Math.max(longest, end - i + 1);
            }
        }
        return longest;
    }
}
