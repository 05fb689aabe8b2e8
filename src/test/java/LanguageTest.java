import java.io.IOException;
import java.lang.reflect.Constructor;
import java.lang.reflect.Field;
import java.lang.reflect.Method;
import java.lang.reflect.Modifier;
import java.nio.file.Files;
import java.nio.file.Path;
import java.util.Set;
import java.util.TreeSet;
import java.util.regex.Matcher;
import java.util.regex.Pattern;

/** What of LANGUAGE.md can be seen from the text and from the compiled face. */
public final class LanguageTest {
    private static final Checks C = new Checks();

    private static final Set<String> FACE = Set.of("enroll", "found", "purge", "appeal", "pay", "ofCitizen", "seat",
        "council", "move", "amend", "assembly", "ofDecree", "law", "would", "stand", "fill", "ofOffice", "sue",
        "challenge", "arbitrate", "court", "ofSuit", "jury", "lease", "ally", "money", "claim", "bear", "festival",
        "ofTribe", "sherds", "levy", "rise", "pass", "city", "roll", "isSound", "bell", "tell", "digest");

    private static void face() {
        Set<String> found = new TreeSet<>();
        for (Method m : Kleroterion.class.getDeclaredMethods()) {
            if (Modifier.isPublic(m.getModifiers())) found.add(m.getName());
            else C.due(m.getName() + " is private", Modifier.isPrivate(m.getModifiers()) && !FACE.contains(m.getName()), true);
        }
        C.due("the face", found, new TreeSet<>(FACE));
        for (Field f : Kleroterion.class.getDeclaredFields()) C.due(f.getName(), Modifier.isPrivate(f.getModifiers()), true);
        for (Constructor<?> c : Kleroterion.class.getDeclaredConstructors()) C.due("constructor", c.getParameterCount(), 0);
        C.due("final", Modifier.isFinal(Kleroterion.class.getModifiers()), true);
    }

    private static void inside() {
        Class<?>[] inside = Kleroterion.class.getDeclaredClasses();
        C.due("twelve classes", inside.length + 1 <= 12, true);
        for (Class<?> one : inside) {
            C.due(one + " is static", Modifier.isStatic(one.getModifiers()), true);
            int fields = 0;
            for (Field f : one.getDeclaredFields()) {
                if (!Modifier.isStatic(f.getModifiers())) fields++;
                else C.due(f + " is final", Modifier.isFinal(f.getModifiers()), true);
            }
            C.due(one + " has twenty fields at most", fields <= 20, true);
            for (Method m : one.getDeclaredMethods()) {
                C.due(m + " is not named as one of the face", FACE.contains(m.getName()), false);
                C.due(m + " takes seven at most", m.getParameterCount() <= 7, true);
            }
        }
    }

    private static void text() throws IOException {
        String text = Files.readString(Path.of("src/main/java/Kleroterion.java"));
        C.due("signs 0 to 127", text.chars().allMatch(c -> c == '\n' || c >= 32 && c < 127), true);
        String code = text.replaceAll("(?s)/\\*.*?\\*/", "").replaceAll("//[^\n]*", "");
        for (String word : new String[] {"->", "::", "\\bcatch\\b", "\\btry\\b", "\\bfinally\\b", "\\bassert\\b", "\\bvar\\b", "\\bsynchronized\\b",
            "\" *\\+", "\\+ *\"", "\\.equals\\(", "System\\.", "Object\\b", "\\bdouble\\b", "\\bfloat\\b", "Exact\\(", "\\.stream\\(", "\\bList\\b",
            "for \\([A-Z][A-Za-z]* [a-z]+ :"}) {
            Matcher m = Pattern.compile(word).matcher(code);
            C.due("without " + word, m.find(), false);
        }
        Matcher thrown = Pattern.compile("throw [^;]*;").matcher(code);
        while (thrown.find()) {
            C.due(thrown.group(), thrown.group().matches("throw new (IllegalState|IllegalArgument|IndexOutOfBounds)Exception\\(\\);"), true);
        }
        Matcher imported = Pattern.compile("import ([^;]*);").matcher(code);
        while (imported.find()) C.due(imported.group(), imported.group(1).matches("java\\.util\\.(ArrayList|Arrays)"), true);
    }

    private static void lengths() throws IOException {
        int begin = -1;
        int at = 0;
        for (String line : Files.readAllLines(Path.of("src/main/java/Kleroterion.java"))) {
            at++;
            if (line.matches(" {4,8}[a-zA-Z].*\\(.*") && !line.endsWith(";")) begin = at;
            if (line.matches(" {4,8}}") && begin > 0) {
                C.due("the method at line " + begin + " has sixty lines at most", at - begin < 60, true);
                begin = -1;
            }
        }
    }

    public static void main(String[] args) throws IOException {
        face();
        inside();
        text();
        lengths();
        C.end();
    }
}
