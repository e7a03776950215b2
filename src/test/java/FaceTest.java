import java.io.IOException;
import java.lang.reflect.Constructor;
import java.lang.reflect.Field;
import java.lang.reflect.Method;
import java.lang.reflect.Modifier;
import java.nio.charset.StandardCharsets;
import java.nio.file.Files;
import java.nio.file.Path;
import java.util.ArrayList;
import java.util.HashSet;
import java.util.List;
import java.util.Set;
import java.util.TreeSet;
import java.util.regex.Matcher;
import java.util.regex.Pattern;

/** The public face of the document, and those rules of LANGUAGE.md that can be seen from the class and its text. */
public final class FaceTest {
    public static void main(String[] args) throws IOException {
        Path root = Path.of("").toAbsolutePath();
        String document = Files.readString(root.resolve("../shared/DOC.md"), StandardCharsets.UTF_8);
        String source = Files.readString(root.resolve("src/main/java/GlassHouse.java"), StandardCharsets.UTF_8);
        hasTheFace(document);
        hasClassesWithinTheRules();
        hasNoForbiddenWords(withoutComments(source));
        hasShortMethods(source);
        Check.end();
    }

    private static void hasTheFace(String document) {
        Set<String> want = new TreeSet<>();
        Matcher told = Pattern.compile("public (int|long) (\\w+)\\(([^)]*)\\);").matcher(document);
        while (told.find()) want.add(told.group(1) + " " + told.group(2) + "(" + told.group(3).replaceAll(" \\w+(,|$)", "$1") + ")");
        Set<String> got = new TreeSet<>();
        for (Method m : GlassHouse.class.getDeclaredMethods()) {
            if (Modifier.isPrivate(m.getModifiers())) continue;
            Check.holds(m + " is public", Modifier.isPublic(m.getModifiers()) && !Modifier.isStatic(m.getModifiers()));
            List<String> types = new ArrayList<>();
            for (Class<?> type : m.getParameterTypes()) types.add(type.getName());
            got.add(m.getReturnType().getName() + " " + m.getName() + "(" + String.join(", ", types) + ")");
        }
        Check.due("methods in the document", want.size(), 74);
        Check.holds("the methods are those of the document", want.equals(got));
        int constants = 0;
        for (Field f : GlassHouse.class.getDeclaredFields()) {
            if (!Modifier.isPrivate(f.getModifiers())) constants++;
            if (Modifier.isStatic(f.getModifiers())) Check.holds(f + " is final", Modifier.isFinal(f.getModifiers()));
        }
        Check.due("constants", constants, 4);
        Constructor<?>[] constructors = GlassHouse.class.getDeclaredConstructors();
        Check.due("constructors", constructors.length, 1);
        Check.due("its parameters", constructors[0].getParameterCount(), 0);
        Check.holds("final", Modifier.isFinal(GlassHouse.class.getModifiers()));
    }

    private static void hasClassesWithinTheRules() {
        Class<?>[] classes = GlassHouse.class.getDeclaredClasses();
        Check.holds("twelve classes at most", classes.length + 1 <= 12);
        Set<String> face = new HashSet<>();
        for (Method m : GlassHouse.class.getDeclaredMethods()) {
            if (Modifier.isPublic(m.getModifiers())) face.add(m.getName());
        }
        for (Method m : GlassHouse.class.getDeclaredMethods()) {
            if (Modifier.isPrivate(m.getModifiers())) Check.holds(m + " has a name of its own", !face.contains(m.getName()));
        }
        for (Class<?> c : classes) {
            Check.holds(c + " is static", Modifier.isStatic(c.getModifiers()));
            Check.holds(c + " is private", Modifier.isPrivate(c.getModifiers()));
            int fields = 0;
            for (Field f : c.getDeclaredFields()) {
                if (Modifier.isStatic(f.getModifiers())) Check.holds(f + " is final", Modifier.isFinal(f.getModifiers()));
                else fields++;
            }
            Check.holds(c + " has twenty fields at most", fields <= 20);
            for (Method m : c.getDeclaredMethods()) {
                Check.holds(m + " has a name of its own", !face.contains(m.getName()));
                Check.holds(m + " takes seven at most", m.getParameterCount() <= 7);
            }
        }
    }

    private static String withoutComments(String source) {
        return source.replaceAll("(?s)/\\*.*?\\*/", "").replaceAll("//[^\n]*", "");
    }

    private static void hasNoForbiddenWords(String code) {
        String[] words = {"throw", "throws", "try", "catch", "finally", "synchronized", "assert", "import", "package", "yield",
            "var", "Double", "Float", "Object", "hashCode", "toString", "volatile", "transient", "native", "protected", "Exception",
            "addExact", "strictfp", "Arrays", "Character", "Boolean"};
        for (String word : words) Check.holds("no " + word, !Pattern.compile("\\b" + word + "\\b").matcher(code).find());
        Check.holds("no lambda", !code.contains("->"));
        Check.holds("no method reference", !code.contains("::"));
        Check.holds("no text", !code.contains("\""));
        Set<String> library = new TreeSet<>();
        Matcher calls = Pattern.compile("\\b(Math|System|Integer|Long)\\.(\\w+)").matcher(code);
        while (calls.find()) library.add(calls.group());
        library.removeAll(Set.of("Math.max", "Math.min", "Math.abs", "Math.floorDiv", "System.arraycopy"));
        Check.holds("no library but what is listed: " + library, library.isEmpty());
    }

    private static void hasShortMethods(String source) {
        String[] lines = source.split("\n");
        int start = -1;
        for (int i = 0; i < lines.length; i++) {
            Check.holds("line " + (i + 1) + " is not too long", lines[i].length() <= 132);
            if (start < 0 && lines[i].matches("\\s+(public|private|static|int|long|void|boolean|double).*\\) \\{")) start = i;
            if (start >= 0 && lines[i].matches("( {4}| {8})\\}")) {
                Check.holds("method at line " + (start + 1) + " is short", i - start <= 60);
                start = -1;
            }
        }
    }
}
