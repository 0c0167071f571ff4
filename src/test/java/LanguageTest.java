import java.lang.reflect.Field;
import java.lang.reflect.Method;
import java.lang.reflect.Modifier;
import java.nio.file.Files;
import java.nio.file.Path;
import java.util.Arrays;
import java.util.List;
import java.util.Set;
import java.util.TreeSet;
import java.util.regex.Matcher;
import java.util.regex.Pattern;

/** The document's face, and those rules of LANGUAGE.md that can be seen by reading the source or the class. */
public final class LanguageTest {
    private static final String FACE = "decision 3, weight 3, worth 3, pin 2, limit 2, fact 1, change 2, rule 4, first 1, put 2, "
        + "value 1, keep 0, base 1, old 2, run 0, undo 0, told 1, near 1, least 0, without 1, spare 1, why 1, way 1, broken 1, clash 1";
    private static final List<String> FORBIDDEN = List.of("throw", "throws", "try", "catch", "synchronized", "assert", "package",
        "import", "native", "volatile", "transient", "double", "float", "Object", "hashCode", "->", "::", "@");
    private static int wrong = 0;

    private static void expect(boolean holds, String what) {
        if (holds) return;
        wrong++;
        System.out.println(what);
    }

    public static void main(String[] args) throws Exception {
        face();
        insideClasses();
        source(Files.readString(Path.of("src/main/java/NearPlans.java")));
        System.out.println(wrong == 0 ? "the face and the language are kept" : wrong + " faults");
        if (wrong != 0) System.exit(1);
    }

    private static void face() {
        expect(Modifier.isPublic(NearPlans.class.getModifiers()) && Modifier.isFinal(NearPlans.class.getModifiers()), "public final");
        expect(NearPlans.class.getDeclaredConstructors().length == 1, "one constructor");
        Set<String> methods = new TreeSet<>();
        Set<String> names = new TreeSet<>();
        for (Method m : NearPlans.class.getDeclaredMethods()) {
            if (Modifier.isPrivate(m.getModifiers())) continue;
            methods.add(m.getName() + " " + m.getParameterCount());
            names.add(m.getName());
            expect(m.getReturnType() == int.class && Modifier.isPublic(m.getModifiers()), m + " is not of the face");
            expect(!Modifier.isStatic(m.getModifiers()), m + " is static");
            for (Class<?> type : m.getParameterTypes()) expect(type == int.class, m + " takes another type than int");
        }
        expect(methods.equals(new TreeSet<>(Arrays.asList(FACE.split(", ")))), "methods are " + methods);
        for (Method m : NearPlans.class.getDeclaredMethods()) {
            expect(!Modifier.isPrivate(m.getModifiers()) || !names.contains(m.getName()), m + " bears a public name");
        }
        Set<String> constants = new TreeSet<>();
        for (Field f : NearPlans.class.getDeclaredFields()) {
            if (Modifier.isPrivate(f.getModifiers())) continue;
            constants.add(f.getName());
            expect(Modifier.isPublic(f.getModifiers()) && Modifier.isStatic(f.getModifiers()), f + " is not of the face");
        }
        expect(constants.equals(Set.of("UNKNOWN", "OUTSIDE", "STATE", "ROOM", "NONE")), "constants are " + constants);
    }

    private static void insideClasses() {
        Class<?>[] inside = NearPlans.class.getDeclaredClasses();
        expect(inside.length <= 11, "too many classes");
        for (Class<?> c : inside) {
            int modifiers = c.getModifiers();
            expect(Modifier.isStatic(modifiers), c + " is not static");
            expect(!Modifier.isPublic(modifiers) && !Modifier.isProtected(modifiers), c + " can be seen from outside");
            expect(c.getDeclaredFields().length <= 20, c + " has too many fields");
            for (Method m : c.getDeclaredMethods()) expect(m.getParameterCount() <= 7, m + " takes too much");
            for (Field f : c.getDeclaredFields()) {
                boolean constant = Modifier.isFinal(f.getModifiers()) && f.getType().isPrimitive();
                expect(!Modifier.isStatic(f.getModifiers()) || constant, f + " is static state");
            }
        }
    }

    private static void source(String text) {
        String code = text.replaceAll("(?s)/\\*.*?\\*/", "").replaceAll("//[^\n]*", "");
        for (String word : FORBIDDEN) {
            boolean letters = Character.isLetter(word.charAt(0));
            Matcher found = Pattern.compile(letters ? "\\b" + word + "\\b" : Pattern.quote(word)).matcher(code);
            expect(!found.find(), "the source has " + word);
        }
        Matcher library = Pattern.compile("\\b(Math|Integer|Long|System|Arrays)\\.(\\w+)").matcher(code);
        while (library.find()) {
            expect(Set.of("max", "min", "abs", "bitCount").contains(library.group(2)), "the source calls " + library.group());
        }
        for (char c : text.toCharArray()) expect(c < 256, "a character above 255");
        int start = 0;
        String[] lines = text.split("\n");
        for (int i = 0; i < lines.length; i++) {
            if (lines[i].matches("( {4}| {8})(public|private|static|abstract|int|boolean|void|[A-Z]\\w*\\().*\\{")
                && !lines[i].contains(" class ")) start = i;
            if (lines[i].matches("( {4}| {8})\\}")) expect(i - start < 60, "a method of more than sixty lines ends at line " + (i + 1));
        }
    }
}
