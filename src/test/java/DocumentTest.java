import java.io.IOException;
import java.lang.reflect.Constructor;
import java.lang.reflect.Field;
import java.lang.reflect.Method;
import java.lang.reflect.Modifier;
import java.nio.file.Files;
import java.nio.file.Path;
import java.util.ArrayList;
import java.util.List;
import java.util.Set;
import java.util.TreeSet;
import java.util.function.Supplier;

/**
 * The document from its first line to its last promise: each sentence, or part of one that promises something by itself,
 * is quoted in the document's order and followed by what would fail if it did not hold. Where ../shared/DOC.md can be
 * read, the quotes are compared with it, so that no sentence of it goes without a test.
 */
public final class DocumentTest {
    private static final int UNKNOWN = -1, OUTSIDE = -2, STATE = -3, ROOM = -4, NONE = -5;
    private static final Path DOCUMENT = Path.of("../shared/DOC.md");
    private static final Path SOURCE = Path.of("src/main/java/NearPlans.java");
    private static int wrong = 0;

    private interface Call { int on(NearPlans x); }

    public static void main(String[] args) throws IOException {
        List<String> lines = Files.isReadable(DOCUMENT) ? Files.readAllLines(DOCUMENT) : null;
        if (lines == null) System.out.println(DOCUMENT + " can't be read: the quotes are not compared with it");
        else words = wordsOf(lines);
        whatItIs();
        face(lines);
        refusals();
        decisions();
        facts();
        rules();
        keptPlans();
        costAndWorth();
        allowedAndHolds();
        theBest();
        theWay();
        theClash();
        groups();
        whatThereIs();
        plans();
        whatItCosts();
        wayAndClash();
        endOfDocument();
        System.out.println(wrong == 0 ? "all answers are as due" : wrong + " answers are not as due");
        if (wrong != 0) System.exit(1);
    }

    // ---- the sentences

    private static String words = null;
    private static int at = 0;
    private static String part = "";
    private static String sentence = "";
    private static int checks = 1;

    /** The document's words up to 'Not promised', without its marks and without the face. */
    private static String wordsOf(List<String> lines) {
        StringBuilder text = new StringBuilder();
        boolean inFace = false;
        for (String line : lines) {
            if (line.startsWith("## Not promised")) break;
            if (line.startsWith("```")) inFace = line.equals("```java");
            else if (!inFace) text.append(line.replaceAll("^#+ |`", "")).append(' ');
        }
        return text.toString().replaceAll("\\s+", " ");
    }

    /** What is tested next, in the document's own words. */
    private static void says(String quote) {
        if (checks == 0) fault("nothing is tested");
        sentence = quote;
        checks = 0;
        if (words == null) return;
        int found = words.indexOf(quote, at);
        if (found < 0) {
            fault("the document does not say so");
            return;
        }
        String between = words.substring(at, found).strip();
        if (!between.isEmpty()) fault("ahead of it the document says: " + between);
        at = found + quote.length();
    }

    /** A heading, or the head of a call: nothing to be tested by itself. */
    private static void head(String quote) {
        says(quote);
        part = quote;
        checks = 1;
    }

    private static void endOfDocument() {
        head("");
        if (words != null && !words.substring(at).isBlank()) fault("behind it the document says: " + words.substring(at));
    }

    private static void fault(String what) {
        wrong++;
        System.out.println(part + " \"" + sentence + "\": " + what);
    }

    private static void due(String what, int want, int got) {
        checks++;
        if (got != want) fault(what + " answered " + got + ", due is " + want);
    }

    private static void dueValues(NearPlans x, int... values) {
        for (int d = 0; d < values.length; d++) due("value(" + d + ")", values[d], x.value(d));
    }

    private static void dueAll(String what, int want, int... answers) {
        for (int i = 0; i < answers.length; i++) due(what + ", the one at " + i, want, answers[i]);
    }

    private static void holds(String what, boolean it) {
        checks++;
        if (!it) fault(what);
    }

    // ---- objects to ask

    private static NearPlans withDecisions(int count, int low, int high) {
        NearPlans x = new NearPlans();
        for (int d = 0; d < count; d++) x.decision(low, high, d % 4);
        return x;
    }

    private static NearPlans withValues(int... values) {
        NearPlans x = withDecisions(values.length, 0, 5);
        putAll(x, values);
        return x;
    }

    private static void putAll(NearPlans x, int... values) {
        for (int d = 0; d < values.length; d++) x.put(d, values[d]);
    }

    /** Of everything as many as there may be, but no run. */
    private static NearPlans full() {
        NearPlans x = withDecisions(6, 1, 4);
        for (int f = 0; f < 6; f++) x.fact(f);
        for (int r = 0; r < 12; r++) x.rule(4, r % 6, (r + 1) % 6, 3);
        for (int k = 0; k < 3; k++) x.keep();
        return x;
    }

    /** Base 2, 2; both together must now be 6 at least. The first costs 1, the second 3. */
    private static NearPlans story() {
        NearPlans x = withDecisions(2, 0, 5);
        x.fact(4);
        x.rule(2, 0, 1, 0);
        x.weight(1, 3, 0);
        putAll(x, 2, 2);
        x.keep();
        x.change(0, 6);
        return x;
    }

    // ---- What it is

    private static void whatItIs() {
        head("NearPlans What it is");
        says("Plans near an old one: decisions whose values keep hard rules about facts;");
        due("a broken rule", 1, story().told(4));
        NearPlans near = story();
        near.run();
        due("a broken rule behind run()", 0, near.told(4));
        says("the facts change, and of all plans that hold again the one is found that moves least");
        due("run()", 1, story().run());
        dueValues(near, 4, 2);
        says("(or is worth most, and then moves least),");
        NearPlans worth = story();
        worth.worth(1, 5, 10);
        worth.first(1);
        due("run()", 3, worth.run());
        dueValues(worth, 2, 5);
        says("persons being spared by limits;");
        NearPlans spared = story();
        spared.limit(0, 0);
        due("run()", 3, spared.run());
        dueValues(spared, 2, 4);
        says("in what order to move so that as few rules as can be are broken on the way,");
        NearPlans ordered = story();
        putAll(ordered, 0, 4);
        ordered.change(0, 4);
        due("the first step", 1, ordered.way(0));
        due("the second step", 0, ordered.way(1));
        dueAll("broken on the way", 0, ordered.broken(0), ordered.broken(1));
        says("which changed fact a move comes from,");
        due("why(0)", 0, near.why(0));
        says("what each rule and each person costs,");
        due("without(0)", 0, near.without(0));
        due("spare(0)", 3, near.spare(0));
        due("spare(1)", 1, near.spare(1));
        says("which rules clash.");
        NearPlans clash = story();
        clash.rule(1, 0, 0, 0);
        clash.change(0, 11);
        due("how many", 1, clash.clash(-1));
        due("the rule", 0, clash.clash(0));
        says("An object is used for at most 512 calls after it has been made; what later calls answer is free.");
        for (int i = 0; i < lastCalls().size(); i++) asTheLastOf512(i, lastCalls().get(i));
    }

    private static List<Call> lastCalls() {
        return List.of(x -> x.weight(1, 2, 2), x -> x.worth(2, 3, 9), x -> x.pin(2, 1), x -> x.limit(1, 0), x -> x.change(1, 5),
            x -> x.rule(4, 0, 2, 1), x -> x.first(1), x -> x.put(0, 5), x -> x.value(0), x -> x.keep(), x -> x.base(0), x -> x.old(1, 2),
            x -> x.run(), x -> x.undo(), x -> x.told(0), x -> x.told(5), x -> x.near(9), x -> x.least(), x -> x.without(1),
            x -> x.spare(0), x -> x.why(0), x -> x.way(0), x -> x.way(2), x -> x.broken(1), x -> x.clash(-1), x -> x.fact(0),
            x -> x.decision(0, 5, 0));
    }

    private static List<Call> begin() {
        return List.of(x -> x.decision(0, 5, 0), x -> x.decision(0, 5, 1), x -> x.decision(0, 5, 2), x -> x.fact(3), x -> x.fact(2),
            x -> x.rule(2, 0, 1, 0), x -> x.rule(4, 1, 2, 1), x -> x.run(), x -> x.keep(), x -> x.put(2, 1), x -> x.keep(),
            x -> x.change(0, 8), x -> x.weight(0, 4, 1), x -> x.run(), x -> x.put(1, 5), x -> x.put(2, 2), x -> x.put(0, 3));
    }

    /** These leave an object as it was. */
    private static List<Call> idle() {
        return List.of(x -> x.told(0), x -> x.near(40), x -> x.least(), x -> x.without(0), x -> x.spare(2), x -> x.why(1), x -> x.way(1),
            x -> x.broken(0), x -> x.clash(-1), x -> x.run(), x -> x.undo(), x -> x.first(0), x -> x.base(1), x -> x.put(0, 3),
            x -> x.limit(0, 6), x -> x.rule(6, 0, 0, 0), x -> x.worth(0, 0, 0), x -> x.pin(0, NONE), x -> x.change(0, 8));
    }

    private static void asTheLastOf512(int i, Call last) {
        NearPlans used = new NearPlans(), fresh = new NearPlans();
        for (Call call : begin()) dueAll("the same call", call.on(fresh), call.on(used));
        int before = 511 - begin().size();
        for (int n = before % idle().size(); n > 0; n--) used.told(6);
        for (int n = before / idle().size(); n > 0; n--) for (Call call : idle()) call.on(used);
        due("call " + i + " as the 512th", last.on(fresh), last.on(used));
    }

    // ---- The public face

    /** The lines of the face, compared with the class as it is. */
    private static void face(List<String> lines) {
        head("The public face");
        Set<String> members = new TreeSet<>();
        for (Field f : NearPlans.class.getDeclaredFields()) if (!Modifier.isPrivate(f.getModifiers())) members.add(constant(f));
        for (Method m : NearPlans.class.getDeclaredMethods()) if (!Modifier.isPrivate(m.getModifiers())) members.add(method(m));
        for (Constructor<?> c : NearPlans.class.getDeclaredConstructors()) {
            members.add(Modifier.toString(c.getModifiers()) + " NearPlans" + types(c.getParameterTypes()));
        }
        holds("25 methods, a constructor and 5 constants: there are " + members.size(), members.size() == 31);
        holds("public final", NearPlans.class.getModifiers() == (Modifier.PUBLIC | Modifier.FINAL));
        if (lines == null) return;
        Set<String> wanted = membersOf(lines);
        for (String member : wanted) holds("not in the class: " + member, members.contains(member));
        for (String member : members) holds("not in the document: " + member, wanted.contains(member));
    }

    private static String constant(Field f) {
        if (!Modifier.isStatic(f.getModifiers()) || f.getType() != int.class) return f + " is no constant";
        try {
            f.setAccessible(true);
            return Modifier.toString(f.getModifiers()) + " " + f.getType() + " " + f.getName() + " = " + f.getInt(null);
        } catch (IllegalAccessException e) {
            return f + " can't be read";
        }
    }

    private static String method(Method m) {
        return Modifier.toString(m.getModifiers()) + " " + m.getReturnType() + " " + m.getName() + types(m.getParameterTypes());
    }

    private static String types(Class<?>[] parameters) {
        List<String> names = new ArrayList<>();
        for (Class<?> type : parameters) names.add(type.getName());
        return "(" + String.join(", ", names) + ")";
    }

    private static Set<String> membersOf(List<String> lines) {
        Set<String> members = new TreeSet<>();
        String constants = "public static final int ";
        for (String line : lines) {
            String member = line.strip().replace(";", "");
            if (!line.startsWith("    public ")) continue;
            if (!member.startsWith(constants)) members.add(member.replaceAll("int \\w+(?=[,)])", "int"));
            else for (String one : member.substring(constants.length()).split(", ")) members.add(constants + one);
        }
        return members;
    }

    // ---- Terms

    private static void refusals() {
        head("Terms");
        says("UNKNOWN: there is no such thing;");
        dueAll("no such thing", UNKNOWN, story().value(2), story().change(1, 0), story().without(1), story().base(1));
        says("OUTSIDE: a number is out of its bounds;");
        dueAll("out of bounds", OUTSIDE, story().put(0, 6), story().change(0, 21), story().limit(4, 0), story().told(8));
        says("STATE: not now;");
        dueAll("not now", STATE, story().decision(0, 5, 0), story().fact(0), story().undo(), story().why(0), new NearPlans().run());
        says("ROOM;");
        dueAll("no room", ROOM, withDecisions(6, 0, 5).decision(0, 5, 0), full().rule(0, 0, 0, 0), full().keep());
        says("NONE: there is nothing.");
        dueAll("nothing", NONE, new NearPlans().told(7), story().way(0), story().broken(0), story().clash(-1));
        says("Of those that a comment names the first counts;");
        firstCounts();
        says("what is refused changes nothing.");
        refusedChangesNothing();
        says("Whatever has a number has it from 0 on, in the order in which it came.");
        NearPlans x = new NearPlans();
        for (int i = 0; i < 6; i++) due("decision", i, x.decision(i, 5, 0));
        for (int i = 0; i < 6; i++) due("fact", i, x.fact(i));
        for (int i = 0; i < 12; i++) due("rule", i, x.rule(i % 6, 0, 1, 0));
        for (int i = 0; i < 3; i++) due("kept plan", i, x.keep());
        dueValues(x, 0, 1, 2, 3, 4, 5);
        for (int i = 0; i < 6; i++) due("fact " + i, i, x.change(i, 0));
    }

    private static void firstCounts() {
        NearPlans kept = full();
        NearPlans room = withDecisions(6, 0, 5);
        for (int f = 0; f < 6; f++) room.fact(0);
        NearPlans none = new NearPlans();
        dueAll("decision: OUTSIDE, STATE, ROOM", OUTSIDE, kept.decision(2, 1, 0), room.decision(0, 5, 4));
        due("decision: STATE, ROOM", STATE, kept.decision(0, 5, 0));
        dueAll("UNKNOWN, OUTSIDE", UNKNOWN, kept.weight(6, 101, 21), kept.worth(6, 6, 101), kept.pin(6, 5), kept.change(6, 21),
            kept.put(6, 5));
        dueAll("fact: OUTSIDE, STATE, ROOM", OUTSIDE, kept.fact(21), room.fact(21));
        due("fact: STATE, ROOM", STATE, kept.fact(0));
        dueAll("rule: OUTSIDE, UNKNOWN, ROOM", OUTSIDE, kept.rule(6, 6, 6, 6), kept.rule(5, 0, 6, 6), none.rule(6, 0, 0, 0));
        dueAll("rule: UNKNOWN, ROOM", UNKNOWN, kept.rule(0, 6, 0, 0), kept.rule(0, 0, 6, 0), kept.rule(5, 0, 0, 6));
        dueAll("OUTSIDE, STATE", OUTSIDE, none.near(2001), none.spare(4));
        due("without: UNKNOWN, STATE", UNKNOWN, none.without(0));
        dueAll("why: UNKNOWN, STATE", UNKNOWN, none.why(0), kept.why(6));
        dueAll("STATE, NONE", STATE, none.way(9), none.broken(-1), none.run(), none.least(), none.clash(9));
    }

    private static void refusedChangesNothing() {
        List<Call> calls = List.of(x -> x.decision(0, 6, 0), x -> x.decision(0, 5, 0), x -> x.weight(6, 9, 9), x -> x.weight(0, 101, 9),
            x -> x.weight(0, 9, 21), x -> x.worth(0, 6, 9), x -> x.worth(0, 1, 101), x -> x.pin(0, 5), x -> x.pin(6, 1), x -> x.limit(4, 0),
            x -> x.limit(0, 7), x -> x.fact(0), x -> x.fact(21), x -> x.change(6, 0), x -> x.change(0, 21), x -> x.rule(6, 0, 0, 0),
            x -> x.rule(0, 6, 0, 0), x -> x.rule(4, 0, 0, 0), x -> x.first(2), x -> x.put(0, 5), x -> x.put(6, 1), x -> x.value(6),
            x -> x.keep(), x -> x.base(3), x -> x.old(3, 0), x -> x.undo(), x -> x.told(8), x -> x.near(2001), x -> x.without(12),
            x -> x.spare(4), x -> x.why(6), x -> x.why(0));
        for (int i = 0; i < calls.size(); i++) {
            NearPlans x = full();
            int answer = calls.get(i).on(x);
            holds("call " + i + " is not refused, but answers " + answer, answer < 0 && answer > NONE);
            holds("call " + i + " changes something", seen(x).equals(seen(full())));
        }
    }

    /** What can be asked of an object of full(). */
    private static List<Integer> seen(NearPlans x) {
        List<Integer> answers = new ArrayList<>();
        for (int what = 0; what < 8; what++) answers.add(x.told(what));
        for (int d = 0; d < 7; d++) answers.addAll(List.of(x.value(d), x.old(0, d), x.old(2, d), x.near(d), x.undo()));
        for (int person = 0; person < 4; person++) answers.addAll(List.of(x.limit(person, 6), x.first(0)));
        for (int d = 0; d < 6; d++) {
            for (int v = 1; v < 5; v++) answers.addAll(List.of(x.put(d, v), x.told(0), x.told(6), x.worth(d, v, 0)));
        }
        for (int f = 0; f < 7; f++) answers.addAll(List.of(x.change(f, -20), x.told(5)));
        return answers;
    }

    private static void decisions() {
        says("======== 1 DECISIONS (6 at most)");
        NearPlans six = new NearPlans();
        for (int d = 0; d < 6; d++) due("one of six", d, six.decision(0, 5, 0));
        due("a seventh", ROOM, six.decision(0, 5, 0));
        says("have a VALUE of low .. high (both 0 to 5),");
        for (int low = 0; low < 6; low++) for (int high = low; high < 6; high++) valuesFrom(low, high);
        dueAll("out of 0 to 5", OUTSIDE, new NearPlans().decision(-1, 5, 0), new NearPlans().decision(0, 6, 0));
        says("low at first;");
        for (int low = 0; low < 6; low++) due("value at first", low, withDecisions(2, low, 5).value(1));
        says("a PERSON (0 to 3);");
        for (int person = 0; person < 4; person++) for (int other = 0; other < 4; other++) personOf(person, other);
        dueAll("out of 0 to 3", OUTSIDE, new NearPlans().decision(0, 5, -1), new NearPlans().decision(0, 5, 4));
        says("a WEIGHT and a PER (1 and 0 at first);");
        for (int d = 0; d < 6; d++) for (int v = 1; v < 6; v++) due("what a move costs at first", 1, movedTo(d, v).told(0));
        says("a WORTH of each VALUE (0 at first).");
        NearPlans worth = withDecisions(6, 2, 3);
        for (int d = 0; d < 6; d++) for (int v = 0; v < 6; v++) due("worth at first", 0, worth.worth(d, v, 10 * d + v));
        for (int d = 0; d < 6; d++) for (int v = 0; v < 6; v++) due("its own worth", 10 * d + v, worth.worth(d, v, 0));
        says("A PLAN is a VALUE of each;");
        NearPlans mixed = withDecisions(1, 0, 5);
        mixed.decision(2, 4, 0);
        due("plans of 6 values and 3", 18, mixed.near(0));
        mixed.decision(1, 1, 0);
        due("plans of 6 values, 3 and 1", 18, mixed.near(0));
        due("plans of six times 6 values", 46656, withDecisions(6, 0, 5).near(0));
        says("THE PLAN are those that they have now.");
        NearPlans now = withValues(3, 1, 4);
        dueValues(now, 3, 1, 4);
        now.pin(1, 2);
        now.run();
        dueValues(now, 0, 2, 0);
        says("A DECISION may be PINNED to a VALUE.");
        for (int v = 0; v < 6; v++) {
            NearPlans pinned = withValues(1, 1);
            pinned.pin(1, v);
            due("plans with one pinned", 6, pinned.near(0));
            pinned.run();
            dueValues(pinned, 0, v);
        }
    }

    private static void valuesFrom(int low, int high) {
        NearPlans x = withDecisions(1, low, high);
        for (int v = -1; v < 7; v++) {
            NearPlans y = withDecisions(1, low, high);
            due(v + " of " + low + " to " + high, v >= low && v <= high ? low : OUTSIDE, y.put(0, v));
        }
        due("plans", high - low + 1, x.near(0));
    }

    private static void personOf(int person, int other) {
        NearPlans x = new NearPlans();
        x.decision(0, 5, person);
        x.keep();
        x.put(0, 1);
        x.limit(other, 0);
        due("allowed, person " + person + " and limit of " + other, person == other ? 0 : 1, x.told(6));
    }

    private static NearPlans movedTo(int decision, int value) {
        NearPlans x = withDecisions(6, 0, 5);
        x.keep();
        x.put(decision, value);
        return x;
    }

    private static void facts() {
        says("FACTS (6 at most) are numbers.");
        NearPlans x = new NearPlans();
        for (int f = 0; f < 6; f++) due("one of six", f, x.fact(3 * f - 7));
        due("a seventh", ROOM, x.fact(0));
        for (int f = 0; f < 6; f++) due("what fact " + f + " is", 3 * f - 7, x.change(f, 0));
    }

    private static void rules() {
        says("RULES (12 at most) are about DECISIONS a, b and a FACT f; x and y are the VALUES of a and b, F is the FACT:");
        NearPlans twelve = withDecisions(2, 0, 5);
        twelve.fact(0);
        for (int r = 0; r < 12; r++) due("one of twelve", r, twelve.rule(r % 6, 0, 1, 0));
        due("a thirteenth", ROOM, twelve.rule(0, 0, 1, 0));
        for (int a = 0; a < 6; a++) for (int b = 0; b < 6; b++) if (a != b) aboutDecisions(a, b);
        for (int f = 0; f < 6; f++) for (int kind = 0; kind < 6; kind++) aboutFact(kind, f);
        says("kind 0: x - y is at most F.");
        for (int f = -6; f <= 6; f++) for (int x = 0; x < 6; x++) for (int y = 0; y < 6; y++) kind(0, x, y, f, x - y <= f);
        says("1: x + y is at most F.");
        for (int f = -1; f <= 11; f++) for (int x = 0; x < 6; x++) for (int y = 0; y < 6; y++) kind(1, x, y, f, x + y <= f);
        says("2: x + y is at least F.");
        for (int f = -1; f <= 11; f++) for (int x = 0; x < 6; x++) for (int y = 0; y < 6; y++) kind(2, x, y, f, x + y >= f);
        says("3: x and y are F or more apart.");
        for (int f = -6; f <= 6; f++) for (int x = 0; x < 6; x++) for (int y = 0; y < 6; y++) kind(3, x, y, f, x - y >= f || y - x >= f);
        says("4: they are at most F apart.");
        for (int f = -6; f <= 6; f++) for (int x = 0; x < 6; x++) for (int y = 0; y < 6; y++) kind(4, x, y, f, x - y <= f && y - x <= f);
        says("5: at most F DECISIONS have the VALUE b (0 to 5; a is not looked at).");
        for (int f = -1; f <= 7; f++) for (int b = 0; b < 6; b++) for (int many = 0; many <= 6; many++) crowd(f, b, many);
        dueAll("b out of 0 to 5", OUTSIDE, full().rule(5, 0, -1, 0), full().rule(5, 0, 6, 0));
        says("a and b may be one.");
        NearPlans one = withValues(0, 3);
        one.fact(6);
        for (int kind = 0; kind < 5; kind++) due("a rule of one", kind, one.rule(kind, 1, 1, 0));
        due("broken with fact 6", 0b01000, one.told(5));
        one.change(0, 5);
        due("broken with fact 5", 0b01010, one.told(5));
        one.change(0, 7);
        due("broken with fact 7", 0b01100, one.told(5));
        one.change(0, -1);
        due("broken with fact -1", 0b10011, one.told(5));
    }

    /** x of a, less y of b, is at most -5 only where a has 0 and b has 5. */
    private static void aboutDecisions(int a, int b) {
        NearPlans x = withValues(1, 1, 1, 1, 1, 1);
        x.fact(-5);
        x.rule(0, a, b, 0);
        x.put(a, 0);
        x.put(b, 5);
        due("a is " + a + ", b is " + b, 0, x.told(4));
        x.put(a, 5);
        x.put(b, 0);
        due("b is " + a + ", a is " + b, 1, x.told(4));
        x.run();
        due("a found", 0, x.value(a));
        due("b found", 5, x.value(b));
    }

    private static void aboutFact(int kind, int fact) {
        int good = kind == 2 || kind == 3 ? -20 : 20;
        NearPlans x = withValues(2, 3);
        for (int f = 0; f < 6; f++) x.fact(f == fact ? good : -good);
        x.rule(kind, 0, 1, fact);
        due("broken by the facts of others", 0, x.told(4));
        x.change(fact, -good);
        due("broken by its own fact", 1, x.told(4));
    }

    private static void kind(int kind, int x, int y, int fact, boolean it) {
        NearPlans n = withValues(x, y);
        n.fact(fact);
        n.rule(kind, 0, 1, 0);
        due("broken with " + x + ", " + y + " and " + fact, it ? 0 : 1, n.told(4));
        n.pin(0, x);
        n.pin(1, y);
        due("run() with " + x + ", " + y + " and " + fact, it ? 0 : NONE, n.run());
    }

    private static void crowd(int fact, int value, int many) {
        NearPlans x = withDecisions(6, 0, 5);
        x.fact(fact);
        x.rule(5, many - 3, value, 0);
        for (int d = 0; d < 6; d++) x.put(d, d < many ? value : (value + 1) % 6);
        for (int d = 0; d < 6; d++) x.pin(d, x.value(d));
        due("broken with " + many + " that have " + value + " and " + fact, many <= fact ? 0 : 1, x.told(4));
        due("run() with " + many + " that have " + value + " and " + fact, many <= fact ? 0 : NONE, x.run());
    }

    private static void keptPlans() {
        says("KEPT PLANS (3 at most):");
        NearPlans three = withDecisions(1, 0, 5);
        for (int k = 0; k < 3; k++) due("one of three", k, three.keep());
        due("a fourth", ROOM, three.keep());
        says("THE PLAN and all FACTS as they were when it was kept.");
        NearPlans x = withDecisions(3, 0, 5);
        for (int k = 0; k < 3; k++) {
            putAll(x, k, k + 1, k + 2);
            x.keep();
        }
        putAll(x, 5, 5, 5);
        x.run();
        for (int k = 0; k < 3; k++) for (int d = 0; d < 3; d++) due("old(" + k + ", " + d + ")", k + d, x.old(k, d));
        for (int f = 0; f < 6; f++) for (int k = 0; k < 3; k++) factsOfKept(f, k);
        says("THE BASE is one of them, the latest one kept or told;");
        NearPlans base = withDecisions(1, 0, 5);
        base.keep();
        base.keep();
        due("kept", 1, base.told(7));
        base.base(0);
        due("told", 0, base.told(7));
        base.keep();
        due("kept behind told", 2, base.told(7));
        base.base(1);
        due("told behind kept", 1, base.told(7));
        says("NONE at first.");
        dueAll("no base", NONE, new NearPlans().told(7), withValues(1, 2).told(7));
    }

    /** Fact f is f + k when plan k is kept; only why() tells whether it is still that. */
    private static void factsOfKept(int fact, int kept) {
        NearPlans x = withDecisions(1, 0, 5);
        for (int f = 0; f < 6; f++) x.fact(f);
        for (int k = 0; k < 3; k++) {
            for (int f = 0; f < 6; f++) x.change(f, f + k);
            x.keep();
        }
        for (int f = 0; f < 6; f++) x.change(f, f + kept);
        x.base(kept);
        x.put(0, 1);
        due("no fact is another one", NONE, x.why(0));
        x.change(fact, 20);
        due("the fact that is another one", fact, x.why(0));
    }

    private static void costAndWorth() {
        says("A DECISION is MOVED by a PLAN, if its VALUE there is another one than in THE BASE");
        for (int was = 0; was < 6; was++) {
            for (int is = 0; is < 6; is++) {
                NearPlans x = withValues(3, was, 3);
                x.keep();
                x.put(1, is);
                due("moved from " + was + " to " + is, was == is ? 0 : 0b10, x.told(3));
            }
        }
        NearPlans other = withValues(1, 2);
        other.keep();
        putAll(other, 1, 3);
        other.keep();
        due("moved from the base itself", 0, other.told(3));
        other.base(0);
        due("moved from the other base", 0b10, other.told(3));
        says("(without one: nothing is).");
        NearPlans none = withDecisions(2, 0, 5);
        none.run();
        putAll(none, 5, 5);
        dueAll("moved", 0, none.told(0), none.told(2), none.told(3));
        says("THE COST of a PLAN: for each that is MOVED its WEIGHT, and its PER times how far both VALUES are apart.");
        for (int was = 0; was < 6; was++) for (int is = 0; is < 6; is++) costOf(was, is);
        NearPlans all = withDecisions(6, 0, 5);
        for (int d = 0; d < 6; d++) all.weight(d, 10 + d, d);
        all.keep();
        putAll(all, 1, 2, 0, 4, 5, 3);
        due("the cost of five", 10 + (11 + 2) + (13 + 3 * 4) + (14 + 4 * 5) + (15 + 5 * 3), all.told(0));
        says("Its WORTH: the sum of the WORTHS of its VALUES.");
        NearPlans worth = withValues(0, 1, 2, 3, 4, 5);
        for (int d = 0; d < 6; d++) for (int v = 0; v < 6; v++) worth.worth(d, v, v == d ? 1 + 10 * d : 9);
        due("the worth of six", 6 + 150, worth.told(1));
        worth.keep();
        worth.put(0, 1);
        due("the worth of six, moved or not", 5 + 150 + 9, worth.told(1));
    }

    private static void costOf(int was, int is) {
        NearPlans x = withValues(was, 2);
        x.weight(0, 7, 3);
        x.keep();
        x.put(0, is);
        int cost = was == is ? 0 : 7 + 3 * Math.abs(was - is);
        due("the cost from " + was + " to " + is, cost, x.told(0));
        x.pin(0, is);
        due("found, from " + was + " to " + is, cost, x.run());
    }

    private static void allowedAndHolds() {
        says("A PLAN is ALLOWED, if each VALUE is one that its DECISION may have,");
        NearPlans narrow = withDecisions(1, 2, 3);
        narrow.decision(4, 4, 0);
        due("allowed plans", 2, narrow.near(0));
        narrow.worth(0, 5, 50);
        narrow.worth(1, 0, 50);
        narrow.first(1);
        narrow.run();
        dueValues(narrow, 2, 4);
        says("PINNED ones have that,");
        NearPlans pinned = withValues(1, 2);
        pinned.pin(0, 1);
        due("the pin's value", 1, pinned.told(6));
        pinned.put(0, 3);
        due("another than the pin's value", 0, pinned.told(6));
        due("allowed plans", 6, pinned.near(0));
        pinned.pin(0, NONE);
        due("no pin", 1, pinned.told(6));
        says("and of each PERSON's DECISIONS no more are MOVED than its LIMIT (6 at first).");
        for (int limit = 0; limit <= 6; limit++) for (int moved = 0; moved <= 6; moved++) limited(limit, moved);
        for (int person = 0; person < 4; person++) due("limit at first", 6, new NearPlans().limit(person, 0));
        NearPlans persons = withDecisions(6, 0, 1);
        for (int person = 0; person < 4; person++) persons.limit(person, 1);
        persons.keep();
        putAll(persons, 1, 1, 1, 1, 0, 0);
        due("one of each person", 1, persons.told(6));
        persons.put(4, 1);
        due("two of one person", 0, persons.told(6));
        due("plans that move one of each person at most", 3 * 3 * 2 * 2, persons.near(2000));
        says("It HOLDS, if it is ALLOWED and all RULES hold.");
        NearPlans x = withDecisions(2, 0, 5);
        x.fact(1);
        x.fact(9);
        x.rule(1, 0, 1, 0);
        due("plans that keep the rule", 3, x.near(0));
        x.rule(2, 0, 1, 0);
        due("plans that keep both rules", 2, x.near(0));
        x.pin(0, 0);
        due("and the pin", 1, x.near(0));
        x.rule(2, 0, 1, 1);
        due("and a rule that does not hold", 0, x.near(0));
    }

    private static void limited(int limit, int moved) {
        NearPlans x = new NearPlans();
        for (int d = 0; d < 6; d++) x.decision(0, 1, 2);
        x.keep();
        for (int d = 0; d < moved; d++) x.put(5 - d, 1);
        x.limit(2, limit);
        due("allowed, " + moved + " moved and limit " + limit, moved <= limit ? 1 : 0, x.told(6));
        for (int d = 0; d < 6; d++) x.pin(d, x.value(d));
        due("found, " + moved + " moved and limit " + limit, moved <= limit ? moved : NONE, x.run());
    }

    /** Base 0, 0; both together 2 at least. */
    private static NearPlans two(int weight, int otherWeight) {
        NearPlans x = withDecisions(2, 0, 5);
        x.fact(2);
        x.rule(2, 0, 1, 0);
        x.weight(0, weight, 0);
        x.weight(1, otherWeight, 0);
        x.keep();
        return x;
    }

    private static void theBest() {
        says("THE BEST of some PLANS: NEAR FIRST: of the least COST,");
        NearPlans cheap = two(4, 5);
        cheap.worth(1, 3, 100);
        due("the least cost", 4, cheap.run());
        dueValues(cheap, 2, 0);
        says("of these of the greatest WORTH;");
        NearPlans worth = two(5, 5);
        worth.worth(0, 4, 2);
        worth.worth(0, 5, 1);
        worth.worth(1, 1, 50);
        due("the least cost", 5, worth.run());
        dueValues(worth, 4, 0);
        says("WORTH FIRST: of the greatest WORTH,");
        NearPlans rich = two(4, 5);
        rich.first(1);
        rich.worth(0, 1, 1);
        rich.worth(1, 1, 1);
        due("the cost of the greatest worth", 9, rich.run());
        dueValues(rich, 1, 1);
        says("of these of the least COST;");
        NearPlans near = two(5, 6);
        near.first(1);
        due("the least cost of no worth", 5, near.run());
        dueValues(near, 2, 0);
        for (int v = 0; v < 6; v++) near.worth(0, v, v < 2 ? 0 : 4);
        near.worth(1, 0, 4);
        near.worth(1, 3, 4);
        near.weight(0, 5, 1);
        near.put(0, 4);
        near.keep();
        due("the least cost of the greatest worth", 0, near.run());
        dueValues(near, 4, 0);
        says("then the one that has the lesser VALUE where they first differ, by DECISIONS' numbers.");
        for (int which = 0; which < 2; which++) {
            NearPlans equal = two(5, 5);
            equal.first(which);
            due("the cost of equals", 5, equal.run());
            dueValues(equal, 0, 2);
            NearPlans free = withValues(4, 3, 5);
            free.first(which);
            free.fact(5);
            free.rule(2, 0, 2, 0);
            due("the cost of equals", 0, free.run());
            dueValues(free, 0, 0, 5);
        }
        says("(NEAR FIRST at first.)");
        due("which was", 0, new NearPlans().first(1));
        NearPlans first = two(4, 5);
        first.worth(1, 5, 100);
        due("run()", 4, first.run());
    }

    // ---- Terms, the way

    /** Base 0 0 0, plan 1 1 1, and so many rules (n, a, b) that are broken while a has moved and b has not. */
    private static NearPlans withOrders(int... nab) {
        NearPlans x = withDecisions(3, 0, 1);
        x.fact(0);
        for (int i = 0; i + 2 < nab.length; i += 3) for (int n = 0; n < nab[i]; n++) x.rule(0, nab[i + 1], nab[i + 2], 0);
        x.keep();
        putAll(x, 1, 1, 1);
        return x;
    }

    private static void dueWay(NearPlans x, int[] way, int[] broken) {
        for (int i = 0; i < way.length; i++) {
            due("way(" + i + ")", way[i], x.way(i));
            due("broken(" + i + ")", broken[i], x.broken(i));
        }
        due("no more steps", NONE, x.way(way.length));
    }

    private static void theWay() {
        says("======== 2 A WAY from THE BASE to THE PLAN: a row of the DECISIONS that THE PLAN moves, each once;");
        for (int moved = 0; moved < 64; moved++) {
            NearPlans x = withValues(2, 2, 2, 2, 2, 2);
            x.keep();
            int steps = 0;
            for (int d = 0; d < 6; d++) if ((moved >> d & 1) == 1) x.put(d, d % 2 == 0 ? 1 : 4);
            for (int d = 0; d < 6; d++) if ((moved >> d & 1) == 1) due("step of " + moved, d, x.way(steps++));
            due("a step behind the last of " + moved, NONE, x.way(steps));
        }
        says("each takes its VALUE of THE PLAN in turn, all begin as in THE BASE.");
        NearPlans x = withValues(1, 1, 4);
        x.fact(0);
        x.rule(4, 0, 1, 0);
        x.rule(4, 0, 2, 0);
        x.keep();
        putAll(x, 4, 4, 4);
        dueWay(x, new int[] {0, 1}, new int[] {1, 0});
        x.change(0, 2);
        dueWay(x, new int[] {0, 1}, new int[] {1, 0});
        x.put(0, 3);
        dueWay(x, new int[] {0, 1}, new int[] {0, 0});
        says("A STEP's BROKEN are the RULES that do not hold behind it.");
        NearPlans never = withDecisions(2, 0, 5);
        never.fact(-1);
        never.fact(0);
        never.rule(5, 0, 3, 0);
        never.rule(4, 0, 1, 1);
        never.keep();
        putAll(never, 2, 2);
        dueWay(never, new int[] {0, 1}, new int[] {2, 1});
        says("THE WAY: of all those the one whose greatest number of BROKEN RULES is least;");
        // {0}: 1, {1}: 3, {2}: 7, {0, 1}: 4, {0, 2}: 4, {1, 2}: 3. The sums 5 of 0 1 2 and 0 2 1 have the greatest number 4.
        dueWay(withOrders(1, 0, 2, 3, 1, 2, 3, 2, 0, 4, 2, 1), new int[] {1, 2, 0}, new int[] {3, 3, 0});
        says("of these the one whose numbers of BROKEN RULES together are least;");
        // {0}: 4, {1}: 3, {2}: 3, {0, 1}: 5, {0, 2}: 2, {1, 2}: 3. Greatest 3 have 2 0 1 (sum 5), 1 2 0 and 2 1 0 (sum 6).
        dueWay(withOrders(3, 1, 2, 3, 2, 0, 2, 0, 1, 2, 0, 2), new int[] {2, 0, 1}, new int[] {3, 2, 0});
        says("of these the one with the lesser DECISION where they first differ.");
        // {0}: 2, {1}: 1, {2}: 2, {0, 1}: 2, {0, 2}: 1, {1, 2}: 2. Greatest 2 and sum 3 have 0 2 1, 1 0 2, 1 2 0 and 2 0 1.
        dueWay(withOrders(1, 0, 1, 1, 0, 2, 1, 1, 2, 2, 2, 0), new int[] {0, 2, 1}, new int[] {2, 1, 0});
        dueWay(withOrders(), new int[] {0, 1, 2}, new int[] {0, 0, 0});
        // The first step is 2 in any case; behind it 0 and 1 are equals.
        dueWay(withOrders(1, 0, 2, 1, 1, 2), new int[] {2, 0, 1}, new int[] {0, 0, 0});
    }

    // ---- Terms, the clash

    private static void dueClash(NearPlans x, int... rules) {
        due("how many", rules.length, x.clash(-1));
        for (int i = 0; i < rules.length; i++) due("clash(" + i + ")", rules[i], x.clash(i));
        due("no more", NONE, x.clash(rules.length));
    }

    /** Rules of kind 0 with -1: the first of each two is below the second. */
    private static NearPlans below(int... ab) {
        NearPlans x = withDecisions(6, 0, 5);
        x.fact(-1);
        for (int i = 0; i + 1 < ab.length; i += 2) x.rule(0, ab[i], ab[i + 1], 0);
        return x;
    }

    private static void theClash() {
        says("======== 3 A CLASH: some RULES such that no ALLOWED PLAN keeps all of them.");
        dueClash(below(4, 5, 0, 1, 1, 2, 3, 4, 2, 0), 1, 2, 4);
        NearPlans pinned = below(4, 5, 0, 1);
        pinned.pin(1, 0);
        dueClash(pinned, 1);
        NearPlans limited = below(2, 3, 0, 1);
        limited.keep();
        limited.limit(1, 0);
        dueClash(limited, 1);
        says("THE CLASH: the one of the fewest RULES,");
        dueClash(below(0, 1, 1, 2, 2, 0, 3, 4, 4, 3), 3, 4);
        dueClash(below(0, 1, 1, 2, 2, 0, 3, 4, 4, 3, 5, 5), 5);
        says("of these the one with the lesser RULE where they first differ (by rising numbers).");
        dueClash(below(2, 3, 0, 1, 1, 0, 3, 2), 0, 3);
        dueClash(below(2, 3, 4, 5, 3, 2, 5, 4, 3, 2), 0, 2);
        dueClash(below(0, 1, 2, 2, 3, 3), 1);
        dueClash(below(0, 1, 3, 4, 4, 5, 1, 2, 5, 3, 2, 0), 0, 3, 5);
        says("None if some PLAN HOLDS;");
        NearPlans some = below(0, 1, 1, 2, 2, 3, 3, 4, 4, 5);
        dueAll("no clash", NONE, some.clash(-1), some.clash(0), withDecisions(1, 0, 0).clash(-1));
        some.pin(5, 4);
        dueClash(some, 0, 1, 2, 3, 4);
        says("of no RULES, if no PLAN is ALLOWED.");
        NearPlans none = below(0, 0);
        dueClash(none, 0);
        none.keep();
        none.pin(3, 1);
        none.limit(3, 0);
        dueClash(none);
        NearPlans noRules = below();
        noRules.keep();
        noRules.pin(3, 1);
        noRules.limit(3, 0);
        dueClash(noRules);
    }

    /** The class says it, too, ahead of the first of these calls. */
    private static void groups() throws IOException {
        String source = Files.readString(SOURCE).replaceAll("\\s+", " ");
        says("Ahead of the calls decision, weight, worth, pin, limit, fact, change, rule, first the interface says: ---- what there is.");
        holds("the class does not", source.contains("// ---- what there is public int decision("));
        says("Ahead of the calls put, value, keep, base, old, run, undo, told the interface says: ---- plans.");
        holds("the class does not", source.contains("// ---- plans public int put("));
        says("Ahead of the calls near, least, without, spare, why the interface says: ---- what it costs.");
        holds("the class does not", source.contains("// ---- what it costs public int near("));
        says("Ahead of the calls way, broken, clash the interface says: ---- the way, the clash.");
        holds("the class does not", source.contains("// ---- the way, the clash public int way("));
    }

    // ---- Promises 1 to 10

    private static void whatThereIs() {
        newObject();
        decision();
        weight();
        worth();
        pin();
        limit();
        fact();
        change();
        rule();
        first();
    }

    private static void newObject() {
        head("Promise 1: A new object NearPlans():");
        says("Nothing.");
        int[] nothing = {0, 0, 0, 0, 0, 0, 1, NONE};
        for (int what = 0; what < 8; what++) due("told(" + what + ")", nothing[what], new NearPlans().told(what));
        NearPlans x = new NearPlans();
        dueAll("nothing is known", UNKNOWN, x.value(0), x.change(0, 0), x.without(0), x.base(0), x.old(0, 0), x.why(0));
        dueAll("nothing can be done", STATE, x.keep(), x.run(), x.undo(), x.near(0), x.least(), x.spare(0), x.way(0), x.broken(0),
            x.clash(-1));
        NearPlans other = full();
        due("another object's decisions", UNKNOWN, new NearPlans().value(0));
        due("this one's", 1, other.value(0));
    }

    private static void decision() {
        head("Promise 2: decision int decision(int low, int high, int person):");
        says("A DECISION: its number.");
        NearPlans x = new NearPlans();
        for (int d = 0; d < 6; d++) due("its number", d, x.decision(0, 5 - d, d % 4));
        for (int d = 0; d < 6; d++) due("it is there", 0, x.put(d, 5 - d));
        says("OUTSIDE: low, high are not 0 to 5,");
        dueAll("low", OUTSIDE, new NearPlans().decision(-1, 5, 0), new NearPlans().decision(6, 6, 0), new NearPlans().decision(-1, -1, 0));
        dueAll("high", OUTSIDE, new NearPlans().decision(0, 6, 0), new NearPlans().decision(5, 6, 0), new NearPlans().decision(0, -1, 0));
        dueAll("inside", 0, new NearPlans().decision(0, 5, 0), new NearPlans().decision(5, 5, 0), new NearPlans().decision(0, 0, 0));
        says("low is above high,");
        dueAll("low above high", OUTSIDE, new NearPlans().decision(1, 0, 0), new NearPlans().decision(5, 4, 0));
        due("low as high", 0, new NearPlans().decision(4, 4, 0));
        says("the PERSON is not 0 to 3;");
        dueAll("the person", OUTSIDE, new NearPlans().decision(0, 5, -1), new NearPlans().decision(0, 5, 4));
        dueAll("inside", 0, new NearPlans().decision(0, 5, 0), new NearPlans().decision(0, 5, 3));
        says("STATE: a PLAN is KEPT;");
        NearPlans kept = withDecisions(2, 0, 5);
        kept.keep();
        due("kept", STATE, kept.decision(0, 5, 0));
        due("not kept, but run", 2, behindRun().decision(0, 5, 0));
        says("ROOM.");
        due("the seventh", ROOM, withDecisions(6, 0, 5).decision(0, 5, 0));
        due("the sixth", 5, withDecisions(5, 0, 5).decision(0, 5, 0));
    }

    private static NearPlans behindRun() {
        NearPlans x = withDecisions(2, 0, 5);
        x.run();
        return x;
    }

    private static void weight() {
        head("Promise 3: weight int weight(int decision, int weight, int per):");
        says("A DECISION's WEIGHT (0 to 100) and PER (0 to 20): 1.");
        for (int weight = 0; weight <= 100; weight += 10) {
            for (int per = 0; per <= 20; per++) {
                NearPlans x = movedTo(5, 3);
                due("answer", 1, x.weight(5, weight, per));
                due("cost of " + weight + " and " + per, weight + 3 * per, x.told(0));
                due("of another decision", 1, x.weight(4, 9, 9));
                due("cost of " + weight + " and " + per, weight + 3 * per, x.told(0));
            }
        }
        says("UNKNOWN;");
        dueAll("no such decision", UNKNOWN, movedTo(0, 1).weight(6, 1, 1), movedTo(0, 1).weight(-1, 1, 1), new NearPlans().weight(0, 1, 1));
        says("OUTSIDE.");
        dueAll("the weight", OUTSIDE, movedTo(0, 1).weight(0, -1, 0), movedTo(0, 1).weight(0, 101, 0));
        dueAll("the per", OUTSIDE, movedTo(0, 1).weight(0, 0, -1), movedTo(0, 1).weight(0, 0, 21));
    }

    private static void worth() {
        head("Promise 4: worth int worth(int decision, int value, int worth):");
        says("A VALUE's (0 to 5, also one that the DECISION can't have) WORTH (0 to 100): what it was.");
        NearPlans x = withDecisions(2, 2, 3);
        for (int v = 0; v < 6; v++) due("what it was", 0, x.worth(1, v, 95 + v));
        due("the value's worth", 97, x.told(1));
        for (int v = 0; v < 6; v++) due("what it was", 95 + v, x.worth(1, v, 0));
        due("none again", 0, x.told(1));
        says("UNKNOWN;");
        dueAll("no such decision", UNKNOWN, x.worth(2, 0, 0), x.worth(-1, 0, 0), new NearPlans().worth(0, 0, 0));
        says("OUTSIDE.");
        dueAll("the value", OUTSIDE, x.worth(0, -1, 0), x.worth(0, 6, 0), x.worth(0, NONE, 0));
        dueAll("the worth", OUTSIDE, x.worth(0, 0, -1), x.worth(0, 0, 101));
    }

    private static void pin() {
        head("Promise 5: pin int pin(int decision, int value):");
        says("A DECISION is PINNED to a VALUE;");
        NearPlans x = withDecisions(2, 1, 4);
        x.pin(1, 3);
        due("the plan stays", 1, x.value(1));
        due("it is not allowed", 0, x.told(6));
        x.run();
        dueValues(x, 1, 3);
        x.pin(1, 4);
        x.run();
        dueValues(x, 1, 4);
        says("NONE: to none.");
        x.pin(1, NONE);
        due("allowed plans", 16, x.near(0));
        x.run();
        dueValues(x, 1, 1);
        says("1.");
        dueAll("answer", 1, x.pin(0, 1), x.pin(0, 4), x.pin(0, NONE), x.pin(0, NONE));
        says("UNKNOWN;");
        dueAll("no such decision", UNKNOWN, x.pin(2, 1), x.pin(-1, 1), x.pin(2, NONE), new NearPlans().pin(0, 0));
        says("OUTSIDE: it can't have it.");
        dueAll("the value", OUTSIDE, x.pin(0, 0), x.pin(0, 5), x.pin(0, -1), x.pin(0, -6), x.pin(0, -4));
    }

    private static void limit() {
        head("Promise 6: limit int limit(int person, int n):");
        says("A PERSON's LIMIT (0 to 6): what it was.");
        NearPlans x = new NearPlans();
        for (int person = 0; person < 4; person++) for (int n = 0; n <= 6; n++) due("what it was", n == 0 ? 6 : n - 1, x.limit(person, n));
        NearPlans one = movedTo(2, 1);
        one.limit(2, 0);
        due("above the limit", 0, one.told(6));
        one.limit(2, 1);
        due("at the limit", 1, one.told(6));
        says("OUTSIDE.");
        dueAll("the person", OUTSIDE, x.limit(-1, 0), x.limit(4, 0));
        dueAll("the limit", OUTSIDE, x.limit(0, -1), x.limit(0, 7));
    }

    private static void fact() {
        head("Promise 7: fact int fact(int v):");
        says("A FACT (-20 to 20): its number.");
        for (int v = -20; v <= 20; v++) {
            NearPlans x = new NearPlans();
            dueAll("its number", 0, x.fact(v));
            due("the next one's", 1, x.fact(0));
            due("what it is", v, x.change(0, 0));
        }
        says("OUTSIDE;");
        dueAll("the number", OUTSIDE, new NearPlans().fact(-21), new NearPlans().fact(21));
        says("STATE: a PLAN is KEPT;");
        NearPlans kept = withDecisions(1, 0, 5);
        kept.keep();
        due("kept", STATE, kept.fact(0));
        due("not kept, but run", 0, behindRun().fact(0));
        says("ROOM.");
        NearPlans x = new NearPlans();
        for (int f = 0; f < 6; f++) due("one of six", f, x.fact(0));
        due("the seventh", ROOM, x.fact(0));
    }

    private static void change() {
        head("Promise 8: change int change(int fact, int v):");
        says("A FACT changes (-20 to 20): what it was.");
        NearPlans x = withValues(3, 4);
        x.fact(5);
        x.fact(-20);
        x.rule(2, 0, 1, 1);
        for (int v = -19; v <= 20; v++) due("what it was", v - 1, x.change(1, v));
        due("the rule is broken", 1, x.told(4));
        due("what it was", 20, x.change(1, 7));
        due("the rule holds", 0, x.told(4));
        due("the other one", 5, x.change(0, 5));
        x.keep();
        due("behind a kept plan", 7, x.change(1, 8));
        due("the rule is broken", 1, x.told(4));
        says("UNKNOWN (which it may have been, too);");
        dueAll("no such fact", UNKNOWN, x.change(2, 0), x.change(-1, 0), new NearPlans().change(0, 0));
        x.change(0, UNKNOWN);
        due("it was", UNKNOWN, x.change(0, 3));
        due("it did change", 3, x.change(0, 3));
        says("OUTSIDE.");
        dueAll("the number", OUTSIDE, x.change(0, -21), x.change(0, 21));
    }

    private static void rule() {
        head("Promise 9: rule int rule(int kind, int a, int b, int fact):");
        says("A RULE: its number.");
        NearPlans x = withDecisions(2, 0, 5);
        x.fact(-20);
        for (int r = 0; r < 12; r++) due("its number", r, x.rule(r % 2, 0, 1, 0));
        due("all are there", 4095, x.told(5));
        NearPlans late = withDecisions(1, 0, 5);
        late.fact(0);
        late.keep();
        due("behind a kept plan", 0, late.rule(0, 0, 0, 0));
        says("OUTSIDE: kind is not 0 to 5,");
        Supplier<NearPlans> some = DocumentTest::story;
        dueAll("the kind", OUTSIDE, some.get().rule(-1, 0, 1, 0), some.get().rule(6, 0, 1, 0));
        for (int kind = 0; kind < 6; kind++) due("a kind", 1, some.get().rule(kind, 0, 1, 0));
        says("b (of 5) not 0 to 5;");
        dueAll("b", OUTSIDE, some.get().rule(5, 0, -1, 0), some.get().rule(5, 0, 6, 0));
        for (int b = 0; b < 6; b++) due("a value", 1, some.get().rule(5, 0, b, 0));
        says("UNKNOWN: a, b (but of 5),");
        for (int kind = 0; kind < 5; kind++) {
            dueAll("a", UNKNOWN, some.get().rule(kind, -1, 0, 0), some.get().rule(kind, 2, 0, 0));
            dueAll("b", UNKNOWN, some.get().rule(kind, 0, -1, 0), some.get().rule(kind, 0, 2, 0));
        }
        dueAll("a of 5", 1, some.get().rule(5, -1, 0, 0), some.get().rule(5, 2, 0, 0));
        due("b of 5", 1, some.get().rule(5, 0, 2, 0));
        says("the FACT;");
        for (int kind = 0; kind < 6; kind++) {
            dueAll("the fact", UNKNOWN, some.get().rule(kind, 0, 1, -1), some.get().rule(kind, 0, 1, 1));
        }
        says("ROOM.");
        for (int kind = 0; kind < 6; kind++) due("the thirteenth", ROOM, x.rule(kind, 0, 1, 0));
    }

    private static void first() {
        head("Promise 10: first int first(int which):");
        says("NEAR FIRST (0), WORTH FIRST (1): what it was.");
        NearPlans x = two(4, 5);
        x.worth(1, 5, 3);
        due("near first at first", 0, x.first(0));
        due("near first", 4, x.run());
        due("what it was", 0, x.first(1));
        due("worth first", 5, x.run());
        dueAll("what it was", 1, x.first(1), x.first(0));
        due("near first again", 4, x.run());
        due("what it was", 0, x.first(0));
        says("OUTSIDE.");
        dueAll("which", OUTSIDE, x.first(-1), x.first(2));
    }

    // ---- Promises 11 to 18

    private static void plans() {
        put();
        value();
        keep();
        base();
        old();
        run();
        undo();
        told();
    }

    private static void put() {
        head("Promise 11: put int put(int decision, int value):");
        says("A DECISION has another VALUE in THE PLAN (PINNED or not): what it was.");
        for (int pin : new int[] {NONE, 0, 3}) {
            NearPlans x = withDecisions(2, 0, 5);
            x.pin(1, pin);
            for (int v = 1; v < 6; v++) due("what it was", v - 1, x.put(1, v));
            dueValues(x, 0, 5);
            due("the same", 5, x.put(1, 5));
        }
        says("UNKNOWN;");
        dueAll("no such decision", UNKNOWN, withDecisions(2, 0, 5).put(2, 0), withDecisions(2, 0, 5).put(-1, 0), new NearPlans().put(0, 0));
        says("OUTSIDE: it can't have it.");
        NearPlans narrow = withDecisions(1, 2, 3);
        dueAll("the value", OUTSIDE, narrow.put(0, 1), narrow.put(0, 4), narrow.put(0, NONE), narrow.put(0, 6), narrow.put(0, -1));
    }

    private static void value() {
        head("Promise 12: value int value(int decision):");
        says("The VALUE of a DECISION in THE PLAN.");
        dueValues(withValues(5, 0, 4, 1, 3, 2), 5, 0, 4, 1, 3, 2);
        NearPlans x = story();
        x.put(0, 1);
        due("not that of the base", 1, x.value(0));
        says("UNKNOWN.");
        dueAll("no such decision", UNKNOWN, x.value(2), x.value(-1), new NearPlans().value(0), withDecisions(6, 0, 5).value(6));
    }

    private static void keep() {
        head("Promise 13: keep int keep():");
        says("THE PLAN is KEPT, and THE BASE: its number.");
        NearPlans x = withDecisions(2, 0, 5);
        for (int k = 0; k < 3; k++) {
            putAll(x, k + 1, k + 2);
            due("its number", k, x.keep());
            due("the base", k, x.told(7));
            due("the plan stays", k + 1, x.value(0));
        }
        putAll(x, 0, 0);
        for (int k = 0; k < 3; k++) for (int d = 0; d < 2; d++) due("old(" + k + ", " + d + ")", k + d + 1, x.old(k, d));
        NearPlans bad = below(0, 0);
        bad.pin(1, 4);
        due("one that does not hold", 0, bad.keep());
        says("STATE: there is no DECISION;");
        NearPlans facts = new NearPlans();
        facts.fact(1);
        dueAll("no decision", STATE, new NearPlans().keep(), facts.keep());
        says("ROOM.");
        due("the fourth", ROOM, x.keep());
    }

    private static void base() {
        head("Promise 14: base int base(int kept):");
        says("A KEPT PLAN is THE BASE: which was (NONE).");
        NearPlans x = withDecisions(1, 0, 5);
        for (int k = 0; k < 3; k++) {
            x.put(0, k);
            x.keep();
        }
        int was = 2;
        for (int kept : new int[] {0, 0, 1, 2, 1, 0, 2}) {
            due("which was", was, x.base(kept));
            due("which is", kept, x.told(7));
            due("moved from it", kept == 2 ? 0 : 1, x.told(2));
            was = kept;
        }
        says("UNKNOWN.");
        dueAll("no such plan", UNKNOWN, x.base(3), x.base(-1), x.base(NONE), new NearPlans().base(0), withDecisions(1, 0, 5).base(0));
    }

    private static void old() {
        head("Promise 15: old int old(int kept, int decision):");
        says("The VALUE of a DECISION in a KEPT PLAN.");
        NearPlans x = withValues(3, 5);
        x.keep();
        putAll(x, 1, 0);
        x.keep();
        putAll(x, 4, 4);
        dueAll("old values", 3, x.old(0, 0));
        due("old(0, 1)", 5, x.old(0, 1));
        due("old(1, 0)", 1, x.old(1, 0));
        due("old(1, 1)", 0, x.old(1, 1));
        says("UNKNOWN: one of both.");
        dueAll("the plan", UNKNOWN, x.old(2, 0), x.old(-1, 0), new NearPlans().old(0, 0), withDecisions(1, 0, 5).old(0, 0));
        dueAll("the decision", UNKNOWN, x.old(0, 2), x.old(0, -1), x.old(2, 2));
    }

    private static void run() {
        head("Promise 16: run int run():");
        says("THE PLAN becomes THE BEST of those that HOLD: its COST;");
        NearPlans x = withDecisions(3, 0, 5);
        x.fact(3);
        x.rule(2, 0, 2, 0);
        putAll(x, 3, 1, 0);
        x.weight(0, 2, 1);
        x.weight(2, 3, 3);
        x.keep();
        due("it holds still", 0, x.run());
        dueValues(x, 3, 1, 0);
        x.change(0, 5);
        due("the first moves", 4, x.run());
        dueValues(x, 5, 1, 0);
        x.change(0, 9);
        due("both move", 4 + 15, x.run());
        dueValues(x, 5, 1, 4);
        x.change(0, 4);
        due("from the base, not from the plan", 3, x.run());
        dueValues(x, 4, 1, 0);
        says("NONE: none HOLDS (THE PLAN stays).");
        x.change(0, 11);
        putAll(x, 1, 2, 3);
        due("none holds", NONE, x.run());
        dueValues(x, 1, 2, 3);
        says("STATE: there is no DECISION.");
        NearPlans rule = new NearPlans();
        rule.fact(-1);
        rule.rule(5, 0, 0, 0);
        dueAll("no decision", STATE, new NearPlans().run(), rule.run());
    }

    private static void undo() {
        head("Promise 17: undo int undo():");
        says("THE PLAN is again what it was before the latest run() that was not refused,");
        NearPlans x = new NearPlans();
        x.run();
        x.decision(0, 5, 0);
        x.decision(0, 5, 0);
        due("a refused one", STATE, x.undo());
        putAll(x, 4, 3);
        x.run();
        putAll(x, 1, 2);
        x.undo();
        dueValues(x, 4, 3);
        says("not NONE,");
        NearPlans none = withValues(5);
        none.fact(0);
        none.rule(3, 0, 0, 0);
        none.run();
        none.change(0, 1);
        none.put(0, 2);
        due("none holds", NONE, none.run());
        due("the one before", 0, none.undo());
        dueValues(none, 5);
        says("and is not undone");
        NearPlans twice = withValues(5);
        twice.run();
        twice.put(0, 4);
        twice.run();
        twice.undo();
        dueValues(twice, 4);
        twice.undo();
        dueValues(twice, 5);
        says("(DECISIONS that came behind it stay):");
        NearPlans later = withValues(5);
        later.run();
        later.decision(1, 5, 0);
        later.put(1, 3);
        later.undo();
        dueValues(later, 5, 3);
        says("how many more there are such");
        NearPlans five = withDecisions(1, 0, 5);
        for (int i = 0; i < 5; i++) five.run();
        for (int i = 4; i >= 0; i--) due("how many more", i, five.undo());
        says("(8 at most are known).");
        for (int runs = 7; runs <= 10; runs++) undoOf(runs);
        says("STATE: there is none.");
        dueAll("none", STATE, new NearPlans().undo(), withDecisions(1, 0, 5).undo(), five.undo(), none.undo());
    }

    private static void undoOf(int runs) {
        NearPlans x = withDecisions(1, 0, 5);
        for (int i = 0; i < runs; i++) {
            x.put(0, i % 5 + 1);
            x.run();
        }
        int known = Math.min(8, runs);
        for (int i = 1; i <= known; i++) {
            due("how many more of " + runs, known - i, x.undo());
            due("the value before run " + (runs - i), (runs - i) % 5 + 1, x.value(0));
        }
        due("no more of " + runs, STATE, x.undo());
    }

    private static void told() {
        head("Promise 18: told int told(int what):");
        NearPlans x = withDecisions(6, 0, 5);
        x.fact(4);
        for (int r = 0; r < 4; r++) x.rule(1, r, r + 2, 0);
        x.worth(1, 5, 30);
        x.worth(4, 2, 4);
        x.keep();
        x.keep();
        putAll(x, 0, 5, 0, 1, 2, 0);
        x.weight(1, 7, 2);
        says("Of THE PLAN: 0 its COST,");
        due("told(0)", 17 + 1 + 1, x.told(0));
        says("1 its WORTH,");
        due("told(1)", 34, x.told(1));
        says("2 how many DECISIONS are MOVED,");
        due("told(2)", 3, x.told(2));
        says("3 these as bits,");
        due("told(3)", 0b011010, x.told(3));
        says("4 how many RULES do not hold,");
        due("told(4)", 1, x.told(4));
        x.put(5, 4);
        due("told(4)", 2, x.told(4));
        says("5 these as bits,");
        due("told(5)", 0b1010, x.told(5));
        says("6 whether it is ALLOWED (1, 0),");
        due("though rules do not hold", 1, x.told(6));
        x.limit(1, 1);
        due("two of person 1 are moved", 0, x.told(6));
        x.limit(1, 2);
        x.pin(0, 1);
        due("the pin is elsewhere", 0, x.told(6));
        says("7 THE BASE (NONE).");
        due("told(7)", 1, x.told(7));
        due("no base", NONE, withDecisions(1, 0, 5).told(7));
        says("OUTSIDE.");
        dueAll("what", OUTSIDE, x.told(-1), x.told(8), x.told(NONE));
    }

    // ---- Promises 19 to 23

    private static void whatItCosts() {
        near();
        least();
        without();
        spare();
        why();
    }

    private static NearPlans ruleAlone() {
        NearPlans x = new NearPlans();
        x.fact(-1);
        x.rule(5, 0, 0, 0);
        return x;
    }

    private static void near() {
        head("Promise 19: near int near(int n):");
        says("How many PLANS that HOLD have a COST of n (0 to 2,000) at most.");
        NearPlans x = story();
        x.weight(0, 1, 1);
        // 6 or more together: 15 plans, of which x0 alone moves in two, x1 alone in two. Base 2, 2.
        int[][] rows = {{0, 0}, {2, 0}, {3, 3}, {4, 4}, {2000, 15}};
        for (int[] row : rows) due("near(" + row[0] + ")", row[1], x.near(row[0]));
        x.limit(0, 0);
        due("with a limit", 2, x.near(2000));
        due("without a base", 36, withDecisions(2, 0, 5).near(0));
        says("OUTSIDE;");
        dueAll("n", OUTSIDE, x.near(-1), x.near(2001));
        says("STATE: there is no DECISION.");
        dueAll("no decision", STATE, new NearPlans().near(0), ruleAlone().near(2000));
    }

    private static void least() {
        head("Promise 20: least int least():");
        says("The least COST of a PLAN that HOLDS;");
        due("least()", 1, story().least());
        NearPlans x = story();
        x.worth(1, 5, 100);
        x.first(1);
        due("worth first or not", 1, x.least());
        x.pin(0, 2);
        due("pinned", 3, x.least());
        x.change(0, 7);
        due("to the end", 3, x.least());
        due("without a base", 0, withDecisions(2, 0, 5).least());
        dueValues(x, 2, 2);
        says("NONE.");
        x.change(0, 8);
        due("none holds", NONE, x.least());
        says("STATE: there is no DECISION.");
        dueAll("no decision", STATE, new NearPlans().least(), ruleAlone().least());
    }

    /** Base 0, 0: the first must be 1 at least, the second 2. */
    private static NearPlans twoRules() {
        NearPlans x = withDecisions(2, 0, 5);
        x.fact(2);
        x.fact(3);
        x.rule(2, 0, 0, 0);
        x.rule(2, 1, 1, 1);
        x.weight(0, 10, 1);
        x.weight(1, 20, 1);
        x.keep();
        return x;
    }

    private static void without() {
        head("Promise 21: without int without(int rule):");
        says("Likewise, if a RULE were not there.");
        NearPlans x = twoRules();
        due("with both", 33, x.least());
        due("without the first", 22, x.without(0));
        due("without the second", 11, x.without(1));
        due("both are there still", 33, x.least());
        says("UNKNOWN (the RULE);");
        dueAll("no such rule", UNKNOWN, x.without(2), x.without(-1), withDecisions(1, 0, 5).without(0), new NearPlans().without(0));
        says("STATE: there is no DECISION;");
        due("no decision", STATE, ruleAlone().without(0));
        says("NONE.");
        x.change(0, 11);
        due("none holds without the second", NONE, x.without(1));
        due("one holds without the first", 22, x.without(0));
    }

    private static void spare() {
        head("Promise 22: spare int spare(int person):");
        says("Likewise, if the LIMIT of a PERSON were 0.");
        NearPlans x = story();
        due("the first one's person", 3, x.spare(0));
        due("the second one's person", 1, x.spare(1));
        dueAll("persons without a decision", 1, x.spare(2), x.spare(3));
        due("the limit stays", 6, x.limit(0, 6));
        says("OUTSIDE;");
        dueAll("the person", OUTSIDE, x.spare(-1), x.spare(4), new NearPlans().spare(4));
        says("STATE: there is no DECISION;");
        dueAll("no decision", STATE, new NearPlans().spare(0), ruleAlone().spare(3));
        says("NONE.");
        x.change(0, 8);
        dueAll("none holds", NONE, x.spare(0), x.spare(1));
        due("but with both moved", 4, x.spare(2));
    }

    private static void why() {
        head("Promise 23: why int why(int decision):");
        says("From which FACT a DECISION that THE PLAN moves comes:");
        NearPlans x = twoRules();
        x.put(0, 1);
        x.put(1, 2);
        x.keep();
        x.change(0, 5);
        x.change(1, 7);
        x.run();
        dueValues(x, 3, 4);
        due("the first", 0, x.why(0));
        due("the second", 1, x.why(1));
        says("the least FACT that is another one than when THE BASE was kept,");
        for (int least = 0; least < 6; least++) {
            NearPlans all = withDecisions(1, 0, 5);
            for (int f = 0; f < 6; f++) all.fact(0);
            all.keep();
            all.put(0, 4);
            for (int f = 5; f >= least; f--) all.change(f, 5 - f - 20);
            due("of the facts from " + least, least, all.why(0));
        }
        NearPlans bases = withDecisions(1, 0, 5);
        bases.fact(0);
        bases.fact(0);
        bases.keep();
        bases.change(0, 3);
        bases.keep();
        bases.change(1, 3);
        bases.put(0, 4);
        due("of the later base", 1, bases.why(0));
        bases.base(0);
        due("of the base of old", 0, bases.why(0));
        bases.change(0, 0);
        due("changed back", 1, bases.why(0));
        bases.change(1, 0);
        due("both changed back", NONE, bases.why(0));
        says("and with which as it was then (all else as now)");
        NearPlans both = twoFacts();
        due("neither alone", NONE, both.why(0));
        both.change(0, 0);
        due("the second, the first being as it was", 1, both.why(0));
        NearPlans now = twoFacts();
        now.change(0, 0);
        now.pin(0, 1);
        due("the pin is as now", NONE, now.why(0));
        now.pin(0, NONE);
        now.rule(2, 0, 1, 2);
        now.worth(0, 1, 9);
        due("the rules are as now", NONE, now.why(0));
        says("THE BEST of the PLANS that HOLD has the DECISION's VALUE of THE BASE;");
        NearPlans best = withDecisions(1, 0, 5);
        best.fact(1);
        best.rule(1, 0, 0, 0);
        best.worth(0, 3, 9);
        best.keep();
        best.change(0, 10);
        best.put(0, 3);
        due("near first", 0, best.why(0));
        best.change(0, 2);
        best.keep();
        best.change(0, 10);
        best.put(0, 1);
        due("near first, the base itself does not hold", NONE, best.why(0));
        best.base(0);
        best.first(1);
        due("worth first, the base being the only one", 0, best.why(0));
        NearPlans which = withDecisions(1, 0, 5);
        which.fact(1);
        which.worth(0, 3, 9);
        which.keep();
        which.change(0, 2);
        which.put(0, 3);
        due("near first the base is the best", 0, which.why(0));
        which.first(1);
        due("worth first another one is the best", NONE, which.why(0));
        which.worth(0, 0, 10);
        due("worth first the base is the best", 0, which.why(0));
        says("NONE.");
        NearPlans noFact = withDecisions(1, 0, 5);
        noFact.keep();
        noFact.put(0, 1);
        due("no fact", NONE, noFact.why(0));
        NearPlans neverHolds = below(0, 0);
        neverHolds.fact(0);
        neverHolds.keep();
        neverHolds.put(0, 1);
        neverHolds.change(1, 5);
        due("none holds", NONE, neverHolds.why(0));
        says("UNKNOWN;");
        dueAll("no such decision", UNKNOWN, x.why(2), x.why(-1), new NearPlans().why(0));
        says("STATE: it is not MOVED.");
        dueAll("not moved", STATE, story().why(0), story().why(1), withValues(3, 4).why(0));
    }

    /** Base 0, 0; both of the first two facts need the first decision to be 1 at least. The third is 1. */
    private static NearPlans twoFacts() {
        NearPlans x = withDecisions(2, 0, 5);
        for (int f = 0; f < 3; f++) x.fact(f == 2 ? 1 : 0);
        x.rule(2, 0, 0, 0);
        x.rule(2, 0, 0, 1);
        x.keep();
        x.change(0, 2);
        x.change(1, 2);
        x.run();
        return x;
    }

    // ---- Promises 24 to 26

    private static void wayAndClash() {
        way();
        broken();
        clash();
    }

    /** Base 0 0 0 0, plan 1 0 1 1; the third may not be above the fourth, nor the first above the third. */
    private static NearPlans threeSteps() {
        NearPlans x = withDecisions(4, 0, 5);
        x.fact(0);
        x.rule(0, 2, 3, 0);
        x.rule(0, 0, 2, 0);
        x.rule(4, 0, 3, 0);
        x.keep();
        putAll(x, 1, 0, 1, 1);
        return x;
    }

    private static void way() {
        head("Promise 24: way int way(int i):");
        says("The DECISION at place i of THE WAY.");
        NearPlans x = threeSteps();
        due("way(0)", 2, x.way(0));
        due("way(1)", 3, x.way(1));
        due("way(2)", 0, x.way(2));
        dueValues(x, 1, 0, 1, 1);
        x.put(2, 0);
        due("the plan of now", 3, x.way(0));
        due("the plan of now", 0, x.way(1));
        says("STATE: there is no BASE;");
        dueAll("no base", STATE, new NearPlans().way(0), withValues(1, 2).way(0), withValues(1, 2).way(-1));
        says("NONE: no such place.");
        dueAll("no such place", NONE, x.way(2), x.way(-1), x.way(6), x.way(NONE), story().way(0));
    }

    private static void broken() {
        head("Promise 25: broken int broken(int i):");
        says("How many RULES are BROKEN behind step i of THE WAY.");
        NearPlans x = threeSteps();
        dueAll("behind the first two", 1, x.broken(0), x.broken(1));
        due("behind the last", 0, x.broken(2));
        x.put(2, 0);
        dueAll("behind both of two", 1, x.broken(0), x.broken(1));
        says("STATE: there is no BASE;");
        dueAll("no base", STATE, new NearPlans().broken(0), withValues(1, 2).broken(0), withValues(1, 2).broken(-1));
        says("NONE: no such place.");
        dueAll("no such place", NONE, x.broken(2), x.broken(-1), x.broken(6), x.broken(NONE), story().broken(0));
    }

    private static void clash() {
        head("Promise 26: clash int clash(int i):");
        NearPlans x = below(4, 5, 0, 1, 1, 2, 3, 4, 2, 0);
        says("How many RULES THE CLASH has (i = -1),");
        due("of three", 3, x.clash(-1));
        due("of one", 1, below(0, 0).clash(-1));
        says("its RULE i;");
        due("clash(0)", 1, x.clash(0));
        due("clash(1)", 2, x.clash(1));
        due("clash(2)", 4, x.clash(2));
        says("NONE: there is none such,");
        dueAll("none such", NONE, x.clash(3), x.clash(-2), x.clash(12), below(0, 0).clash(1));
        says("or no CLASH.");
        dueAll("no clash", NONE, below(0, 1).clash(-1), below(0, 1).clash(0), withDecisions(1, 0, 5).clash(-1));
        says("STATE: there is no DECISION.");
        dueAll("no decision", STATE, new NearPlans().clash(-1), ruleAlone().clash(-1), ruleAlone().clash(0));
    }
}
