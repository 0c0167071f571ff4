import java.io.IOException;
import java.lang.reflect.Array;
import java.lang.reflect.Constructor;
import java.lang.reflect.Field;
import java.lang.reflect.Method;
import java.lang.reflect.Modifier;
import java.nio.file.Files;
import java.nio.file.Path;
import java.util.ArrayList;
import java.util.Collections;
import java.util.HashMap;
import java.util.HashSet;
import java.util.IdentityHashMap;
import java.util.List;
import java.util.Map;
import java.util.Set;
import java.util.TreeSet;
import java.util.regex.Matcher;
import java.util.regex.Pattern;

/** Those rules of LANGUAGE.md that can be seen by reading the source or the compiled class, by their numbers. */
public final class LanguageTest {
    private static final Path SOURCE = Path.of("src/main/java/NearPlans.java");
    private static final Set<String> FACE = Set.of("decision", "weight", "worth", "pin", "limit", "fact", "change", "rule", "first", "put",
        "value", "keep", "base", "old", "run", "undo", "told", "near", "least", "without", "spare", "why", "way", "broken", "clash");
    private static final List<String> FORBIDDEN = List.of("throw", "throws", "try", "catch", "finally", "synchronized", "assert", "package",
        "import", "native", "volatile", "transient", "strictfp", "double", "float", "Object", "equals", "hashCode", "toString", "java",
        "while", "do", "goto", "var", "->", "::", "@", "\"", ">>>=");
    /** Of what the library has, the class needs these alone. */
    private static final Set<String> LIBRARY = Set.of("Math.max", "Math.min", "Math.abs", "Integer.bitCount");
    private static int wrong = 0;

    private static void expect(boolean holds, String what) {
        if (holds) return;
        wrong++;
        System.out.println(what);
    }

    public static void main(String[] args) throws IOException, IllegalAccessException {
        String source = Files.readString(SOURCE);
        String code = source.replaceAll("(?s)/\\*.*?\\*/", "").replaceAll("//[^\n]*", "");
        face();
        classesInside();
        types();
        words(code);
        library(code);
        staticFields();
        loops(code);
        sizes(source);
        depth(code);
        objects(code);
        room();
        for (char c : source.toCharArray()) expect(c < 256, "3: a character above 255");
        System.out.println(wrong == 0 ? "the face and the language are kept" : wrong + " faults");
        if (wrong != 0) System.exit(1);
    }

    /** Rule 1. */
    private static void face() {
        expect(NearPlans.class.getModifiers() == (Modifier.PUBLIC | Modifier.FINAL), "1: not public and final");
        expect(NearPlans.class.getPackageName().isEmpty(), "1: it has a package");
        expect(NearPlans.class.getSuperclass() == Object.class && NearPlans.class.getInterfaces().length == 0, "1: it has a parent");
        Constructor<?>[] constructors = NearPlans.class.getDeclaredConstructors();
        expect(constructors.length == 1 && constructors[0].getParameterCount() == 0, "1: not the one constructor");
        expect(constructors[0].getModifiers() == Modifier.PUBLIC, "1: the constructor is not public");
        Set<String> names = new TreeSet<>();
        for (Method m : NearPlans.class.getDeclaredMethods()) {
            if (Modifier.isPrivate(m.getModifiers())) continue;
            expect(m.getModifiers() == Modifier.PUBLIC && m.getReturnType() == int.class, "1: not of the face: " + m);
            expect(names.add(m.getName()), "1: twice: " + m.getName());
        }
        expect(names.equals(FACE), "1: the public methods are " + names);
        for (Class<?> c : NearPlans.class.getNestMembers()) {
            for (Method m : c.getDeclaredMethods()) {
                boolean isPublic = c == NearPlans.class && Modifier.isPublic(m.getModifiers());
                expect(isPublic || !FACE.contains(m.getName()), "1: bears a public name: " + m);
            }
        }
        for (Field f : NearPlans.class.getDeclaredFields()) {
            boolean constant = f.getModifiers() == (Modifier.PUBLIC | Modifier.STATIC | Modifier.FINAL);
            expect(Modifier.isPrivate(f.getModifiers()) || constant, "1: not of the face: " + f);
        }
    }

    /** Rule 2; a local or anonymous class or an inner one would be a member of the nest, too. */
    private static void classesInside() {
        for (Class<?> c : NearPlans.class.getNestMembers()) {
            if (c == NearPlans.class) continue;
            expect(c.isMemberClass() && c.getDeclaringClass() == NearPlans.class, "2: no class right inside: " + c);
            expect(Modifier.isStatic(c.getModifiers()), "2: not static: " + c);
            expect(!Modifier.isPublic(c.getModifiers()) && !Modifier.isProtected(c.getModifiers()), "1: seen from outside: " + c);
        }
    }

    /** Rule 3. */
    private static void types() {
        Set<Class<?>> good = new HashSet<>(List.of(NearPlans.class.getNestMembers()));
        good.addAll(List.of(int.class, boolean.class, void.class, int[].class, int[][].class, boolean[].class));
        for (Class<?> c : NearPlans.class.getNestMembers()) {
            for (Field f : c.getDeclaredFields()) expect(good.contains(f.getType()), "3: another type: " + f);
            for (Method m : c.getDeclaredMethods()) {
                expect(good.contains(m.getReturnType()), "3: another type: " + m);
                for (Class<?> type : m.getParameterTypes()) expect(good.contains(type), "3: another type: " + m);
            }
        }
    }

    /** Rules 3, 6 and 9, and the marks of lambdas (2) and of texts (10), of which the class has none. */
    private static void words(String code) {
        for (String word : FORBIDDEN) {
            boolean letters = Character.isLetter(word.charAt(0));
            Matcher found = Pattern.compile(letters ? "\\b" + word + "\\b" : Pattern.quote(word)).matcher(code);
            expect(!found.find(), "6: the source has " + word);
        }
    }

    /** Rule 4. */
    private static void library(String code) {
        Matcher called = Pattern.compile("\\b([A-Z][a-z]\\w*)\\.(\\w+)").matcher(code);
        while (called.find()) expect(LIBRARY.contains(called.group()), "4: the source uses " + called.group());
    }

    /** Rule 5. */
    private static void staticFields() {
        for (Class<?> c : NearPlans.class.getNestMembers()) {
            for (Field f : c.getDeclaredFields()) {
                boolean constant = Modifier.isFinal(f.getModifiers()) && f.getType() == int.class;
                expect(!Modifier.isStatic(f.getModifiers()) || constant, "5: static state: " + f);
            }
        }
    }

    /** Rule 9: each loop counts a counter of its own, up or down, against a bound. */
    private static void loops(String code) {
        Pattern counted = Pattern.compile("for \\(int (\\w+) = [^;]+; \\1 (<|<=|>=) [^;]+; \\1(\\+\\+|--)\\) \\{");
        Matcher loop = Pattern.compile("\\bfor \\([^\n]*").matcher(code);
        while (loop.find()) expect(counted.matcher(loop.group()).matches(), "9: not a counted loop: " + loop.group());
    }

    /** Rule 11. */
    private static void sizes(String source) {
        expect(NearPlans.class.getNestMembers().length <= 12, "11: too many classes");
        for (Class<?> c : NearPlans.class.getNestMembers()) {
            int fields = 0;
            for (Field f : c.getDeclaredFields()) if (!Modifier.isStatic(f.getModifiers())) fields++;
            expect(fields <= 20, "11: too many fields: " + c);
            for (Method m : c.getDeclaredMethods()) expect(m.getParameterCount() <= 7, "11: too many parameters: " + m);
        }
        String[] lines = source.split("\n");
        int start = 0;
        for (int i = 0; i < lines.length; i++) {
            if (lines[i].matches("( {4}| {8})(?!if|for|switch|\\})\\S.*\\) \\{")) start = i;
            if (lines[i].matches("( {4}| {8})\\}")) expect(i - start < 60, "11: more than sixty lines end at line " + (i + 1));
        }
    }

    /** Rule 11: the longest chain of calls from one of the face, a call of itself being left out, methods known by name. */
    private static void depth(String code) {
        Map<String, String> bodies = new HashMap<>();
        Matcher method = Pattern.compile("(?sm)^( {4}| {8})(?! |if|for|switch|\\})[^\n;=]*?\\b(\\w+)\\([^\n;]*\\) \\{\n(.*?)\n\\1\\}").matcher(code);
        while (method.find()) bodies.merge(method.group(2), method.group(3), String::concat);
        for (Class<?> c : NearPlans.class.getNestMembers()) {
            for (Method m : c.getDeclaredMethods()) {
                boolean read = bodies.containsKey(m.getName()) || Modifier.isAbstract(m.getModifiers());
                expect(read, "11: this test can't read " + m);
            }
        }
        for (String name : FACE) {
            List<String> chain = longestChain(name, bodies, List.of());
            expect(chain.size() <= 8, "11: more than eight deep: " + chain);
        }
    }

    private static List<String> longestChain(String name, Map<String, String> bodies, List<String> open) {
        List<String> longest = List.of();
        Matcher call = Pattern.compile("\\b(Math\\.\\w+|Integer\\.\\w+|\\w+)\\(").matcher(bodies.getOrDefault(name, ""));
        List<String> opened = new ArrayList<>(open);
        opened.add(name);
        while (call.find()) {
            String called = call.group(1);
            boolean known = LIBRARY.contains(called) || bodies.containsKey(called) && !opened.contains(called);
            List<String> chain = known ? longestChain(called, bodies, opened) : List.of();
            if (chain.size() > longest.size()) longest = chain;
        }
        List<String> whole = new ArrayList<>(List.of(name));
        whole.addAll(longest);
        return whole;
    }

    /** Rule 12: all is made with the object, in the fields' own lines or in the constructor. */
    private static void objects(String code) {
        String body = code.substring(code.indexOf("public NearPlans() {"), code.indexOf("public int decision("));
        String others = code.replace(body, "");
        Matcher made = Pattern.compile("[^\n]*\\bnew\\b[^\n]*").matcher(others);
        while (made.find()) {
            expect(made.group().matches(" {8}(private )?final [\\w\\[\\]]+ \\w+ = new [^;]+;"), "12: made by a call: " + made.group().strip());
        }
    }

    /** One object with all that it has, counted: a run of a thousand objects would still find room. */
    private static void room() throws IllegalAccessException {
        Set<Object> seen = Collections.newSetFromMap(new IdentityHashMap<>());
        long elements = elementsOf(new NearPlans(), seen);
        expect(seen.size() <= 600, "room: an object is made of " + seen.size());
        expect(elements <= 7300, "room: an object has " + elements + " fields and elements");
    }

    private static long elementsOf(Object thing, Set<Object> seen) throws IllegalAccessException {
        if (thing == null || !seen.add(thing)) return 0;
        long count = 0;
        if (thing.getClass().isArray()) {
            count = Array.getLength(thing);
            for (int i = 0; thing instanceof Object[] row && i < row.length; i++) count += elementsOf(row[i], seen);
            return count;
        }
        for (Class<?> c = thing.getClass(); c != Object.class; c = c.getSuperclass()) {
            for (Field f : c.getDeclaredFields()) {
                if (Modifier.isStatic(f.getModifiers())) continue;
                count++;
                f.setAccessible(true);
                if (!f.getType().isPrimitive()) count += elementsOf(f.get(thing), seen);
            }
        }
        return count;
    }
}
