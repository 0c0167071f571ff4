import java.util.ArrayList;
import java.util.List;
import java.util.Set;
import java.util.TreeSet;
import java.util.function.IntUnaryOperator;
import java.util.function.Supplier;

/**
 * The bounds that the document names, promise by promise: the last number inside and the first outside, on both sides,
 * and the farthest numbers; none of a thing, and as many as there may be; each refusal, two of them at once, and that
 * what is refused changes nothing.
 */
public final class BoundsTest {
    private static final int UNKNOWN = -1, OUTSIDE = -2, STATE = -3, ROOM = -4, NONE = -5;
    private static final int LEAST = Integer.MIN_VALUE, MOST = Integer.MAX_VALUE;
    private static int wrong = 0;

    private interface Call { int on(NearPlans x); }
    private interface Asked { int with(NearPlans x, int number); }

    public static void main(String[] args) {
        pictureShowsEveryChange();
        newObject();
        decision();
        weight();
        worth();
        pin();
        limit();
        fact();
        change();
        rule();
        ruleKinds();
        first();
        put();
        value();
        keep();
        base();
        old();
        run();
        undo();
        told();
        near();
        least();
        without();
        spare();
        why();
        way();
        broken();
        clash();
        questionsChangeNothing();
        System.out.println(wrong == 0 ? "all answers are as due" : wrong + " answers are not as due");
        if (wrong != 0) System.exit(1);
    }

    // ---- how it is tested

    private static void due(String what, int want, int got) {
        if (got == want) return;
        wrong++;
        System.out.println(what + " answered " + got + ", due is " + want);
    }

    /** On a new object of the state, so that one refusal cannot hide another. */
    private static void refused(String what, int want, Supplier<NearPlans> state, Call call) {
        answersAndStays(what, want, state.get(), call, picture(state.get()));
    }

    private static void answersAndStays(String what, int want, NearPlans x, Call call, List<Integer> before) {
        due(what, want, call.on(x));
        List<Integer> behind = picture(x);
        for (int i = 0; i < before.size(); i++) {
            if (before.get(i).equals(behind.get(i))) continue;
            due(what + ", then question " + i, before.get(i), behind.get(i));
            return;
        }
    }

    /** All numbers near the bounds and the farthest ones: those inside answer as due, those outside are refused. */
    private static void bounded(String what, Supplier<NearPlans> state, int least, int most, int refusal,
            IntUnaryOperator inside, Asked call) {
        List<Integer> before = picture(state.get());
        for (int number : numbersAround(least, most)) {
            String told = what + " (" + number + ")";
            if (number >= least && number <= most) due(told, inside.applyAsInt(number), call.with(state.get(), number));
            else answersAndStays(told, refusal, state.get(), x -> call.with(x, number), before);
        }
    }

    /** Among the far ones those that a byte, a short or a shift would take for small ones. */
    private static Set<Integer> numbersAround(int least, int most) {
        Set<Integer> numbers = new TreeSet<>();
        for (int i = -7; i <= 12; i++) numbers.add(i);
        for (int i = -2; i <= 2; i++) {
            numbers.add(least + i);
            numbers.add(most + i);
        }
        for (int far : new int[] {32, 64, 256, 65536, 1 << 30}) {
            numbers.add(least - far);
            numbers.add(most + far);
            numbers.add(far);
        }
        numbers.addAll(List.of(LEAST, LEAST + 1, LEAST + 5, MOST - 1, MOST));
        return numbers;
    }

    /**
     * What an object answers to every question; it is of no use behind that. These are 406 calls, so that with the 80 at
     * most that a state takes they stay within the 512 that count.
     */
    private static List<Integer> picture(NearPlans x) {
        List<Integer> seen = new ArrayList<>();
        for (int what = 0; what < 8; what++) seen.add(x.told(what));
        for (int d = 0; d < 6; d++) {
            seen.addAll(List.of(x.value(d), x.why(d), x.way(d), x.broken(d), x.old(0, d), x.old(1, d), x.old(2, d)));
        }
        seen.addAll(List.of(x.least(), x.near(0), x.near(4), x.near(2000)));
        for (int r = 0; r < 12; r++) seen.add(x.without(r));
        for (int person = 0; person < 4; person++) seen.add(x.spare(person));
        for (int i = -1; i < 12; i++) seen.add(x.clash(i));
        int base = x.told(7);
        for (int kept = 0; kept < 3; kept++) {
            seen.addAll(List.of(x.base(kept), x.told(0)));
            for (int d = 0; d < 6; d++) seen.add(x.why(d));
        }
        x.base(base);
        for (int i = 0; i < 9; i++) {
            seen.add(x.undo());
            for (int d = 0; d < 6; d++) seen.add(x.value(d));
        }
        for (int person = 0; person < 4; person++) seen.add(x.limit(person, 6));
        for (int which = 1; which >= 0; which--) {
            seen.addAll(List.of(x.first(which), x.run()));
            for (int d = 0; d < 6; d++) seen.add(x.value(d));
        }
        seen.add(x.keep());
        for (int person = 0; person < 4; person++) {
            x.limit(person, 0);
            seen.add(x.near(2000));
            x.limit(person, 6);
        }
        for (int d = 0; d < 6; d++) {
            int value = x.value(d);
            for (int v = 0; v < 6; v++) seen.addAll(List.of(x.put(d, v), x.told(0), x.told(5), x.told(6), x.worth(d, v, 0)));
            x.put(d, value);
        }
        for (int f = 0; f < 6; f++) seen.add(x.change(f, 0));
        seen.addAll(List.of(x.rule(5, 0, 0, 0), x.fact(0), x.decision(0, 0, 0)));
        return seen;
    }

    // ---- states

    private static NearPlans empty() {
        return new NearPlans();
    }

    private static NearPlans withDecisions(int count, int low, int high) {
        NearPlans x = new NearPlans();
        for (int i = 0; i < count; i++) x.decision(low, high, i % 4);
        return x;
    }

    private static NearPlans ofPersonZero(int count) {
        NearPlans x = new NearPlans();
        for (int i = 0; i < count; i++) x.decision(0, 1, 0);
        return x;
    }

    /** Two decisions that can't have all values, two facts, two rules, a pin, one run to undo; nothing is kept. */
    private static NearPlans few() {
        NearPlans x = new NearPlans();
        x.decision(1, 4, 0);
        x.decision(2, 3, 3);
        x.fact(7);
        x.fact(-3);
        x.rule(1, 0, 1, 0);
        x.rule(2, 1, 1, 1);
        x.worth(0, 2, 3);
        x.worth(0, 5, 8);
        x.weight(1, 4, 2);
        x.put(0, 4);
        x.put(1, 3);
        x.run();
        x.pin(1, 2);
        x.limit(3, 2);
        x.put(0, 3);
        return x;
    }

    /** few(), one plan kept, and then facts, values and limits changed. */
    private static NearPlans kept() {
        NearPlans x = few();
        x.keep();
        x.change(0, 5);
        x.change(1, 4);
        x.first(1);
        x.run();
        x.put(0, 1);
        x.limit(0, 1);
        return x;
    }

    private static NearPlans sixDecisionsAndFacts() {
        NearPlans x = new NearPlans();
        for (int i = 0; i < 6; i++) {
            x.decision(i % 3, i % 3 + 2, i % 4);
            x.fact(i + 1);
            x.weight(i, i, 6 - i);
            x.worth(i, i % 3 + 1, i + 2);
        }
        return x;
    }

    /** Of everything as many as there may be, more than eight runs among them; some rules are broken. */
    private static NearPlans full() {
        NearPlans x = sixDecisionsAndFacts();
        for (int i = 0; i < 4; i++) x.rule(0, i, i + 1, i + 1);
        for (int i = 0; i < 3; i++) x.rule(4, i, i + 2, i + 2);
        for (int i = 0; i < 3; i++) x.rule(1, i, i + 3, 5);
        x.rule(5, -1, 2, 2);
        x.rule(2, 4, 5, 3);
        for (int i = 0; i < 10; i++) {
            x.put(i % 6, i % 3 + i % 2);
            x.pin(5, 2 + i % 2);
            x.run();
            if (i % 4 == 1) x.keep();
        }
        x.base(1);
        x.first(1);
        x.limit(0, 1);
        x.limit(2, 3);
        x.change(2, 1);
        x.change(3, 6);
        x.put(1, 3);
        x.put(3, 2);
        x.put(4, 2);
        return x;
    }

    private static List<Supplier<NearPlans>> states() {
        return List.of(BoundsTest::empty, BoundsTest::few, BoundsTest::kept, BoundsTest::sixDecisionsAndFacts, BoundsTest::full);
    }

    /** Were a picture blind for some change, refused() would prove nothing. Each change is a real one in each state. */
    private static void pictureShowsEveryChange() {
        List<Call> ofDecisions = List.of(x -> x.weight(0, 9, 0), x -> x.weight(1, 4, 9), x -> x.worth(0, 5, 9), x -> x.worth(1, 2, 9),
            x -> x.pin(0, 2), x -> x.pin(1, 3), x -> x.change(0, 4), x -> x.change(1, 3), x -> x.put(0, 2),
            x -> x.put(1, x.value(1) == 3 ? 2 : 3), x -> x.run());
        List<Call> always = List.of(x -> x.limit(0, 5), x -> x.limit(1, 5), x -> x.limit(2, 5), x -> x.limit(3, 5));
        for (Supplier<NearPlans> state : states()) {
            List<Integer> before = picture(state.get());
            due("the same calls give the same answers", 1, picture(state.get()).equals(before) ? 1 : 0);
            for (Call change : always) seen(change, state.get(), before);
            if (state.get().value(0) != UNKNOWN) for (Call change : ofDecisions) seen(change, state.get(), before);
        }
        seen(x -> x.decision(0, 0, 0), few(), picture(few()));
        seen(x -> x.fact(0), few(), picture(few()));
        seen(x -> x.rule(5, 0, 0, 0), kept(), picture(kept()));
        seen(x -> x.first(1), few(), picture(few()));
        seen(x -> x.first(0), kept(), picture(kept()));
        seen(x -> x.keep(), few(), picture(few()));
        seen(x -> x.keep(), kept(), picture(kept()));
        seen(x -> x.base(0), full(), picture(full()));
        seen(x -> x.undo(), full(), picture(full()));
        seen(x -> x.pin(1, NONE), kept(), picture(kept()));
        seen(x -> x.pin(5, NONE), full(), picture(full()));
    }

    private static void seen(Call change, NearPlans x, List<Integer> before) {
        int answer = change.on(x);
        boolean differs = !picture(x).equals(before);
        if (!differs) due("the test itself is blind for a change that answered " + answer + ":", 1, 0);
    }

    // ---- 1 A new object

    private static void newObject() {
        NearPlans x = empty();
        due("1 no cost", 0, x.told(0));
        due("1 no worth", 0, x.told(1));
        due("1 none is moved", 0, x.told(2));
        due("1 none is moved, as bits", 0, x.told(3));
        due("1 no rule is broken", 0, x.told(4));
        due("1 no rule is broken, as bits", 0, x.told(5));
        due("1 the plan of nothing is allowed", 1, x.told(6));
        due("1 no base", NONE, x.told(7));
        due("1 near first", 0, x.first(0));
        for (int person = 0; person < 4; person++) due("1 the limit of person " + person, 6, x.limit(person, 6));
        refused("1 no decision: weight", UNKNOWN, BoundsTest::empty, y -> y.weight(0, 1, 0));
        refused("1 no decision: worth", UNKNOWN, BoundsTest::empty, y -> y.worth(0, 0, 0));
        refused("1 no decision: pin", UNKNOWN, BoundsTest::empty, y -> y.pin(0, 0));
        refused("1 no decision: pin to none", UNKNOWN, BoundsTest::empty, y -> y.pin(0, NONE));
        refused("1 no decision: put", UNKNOWN, BoundsTest::empty, y -> y.put(0, 0));
        refused("1 no decision: value", UNKNOWN, BoundsTest::empty, y -> y.value(0));
        refused("1 no decision: why", UNKNOWN, BoundsTest::empty, y -> y.why(0));
        refused("1 no decision: keep", STATE, BoundsTest::empty, y -> y.keep());
        refused("1 no fact: change", UNKNOWN, BoundsTest::empty, y -> y.change(0, 0));
        refused("1 no fact: rule", UNKNOWN, BoundsTest::empty, y -> y.rule(5, 0, 0, 0));
        refused("1 no rule: without", UNKNOWN, BoundsTest::empty, y -> y.without(0));
        refused("1 no kept plan: base", UNKNOWN, BoundsTest::empty, y -> y.base(0));
        refused("1 no kept plan: old", UNKNOWN, BoundsTest::empty, y -> y.old(0, 0));
        refused("1 no run: undo", STATE, BoundsTest::empty, y -> y.undo());
        due("1 the first decision", 0, empty().decision(0, 0, 0));
        due("1 the first fact", 0, empty().fact(0));
    }

    // ---- 2 decision

    private static void decision() {
        for (int low = -1; low <= 6; low++) {
            for (int high = -1; high <= 6; high++) {
                for (int person = -1; person <= 4; person++) decisionOf(low, high, person);
            }
        }
        bounded("2 low", BoundsTest::empty, 0, 5, OUTSIDE, n -> 0, (x, n) -> x.decision(n, 5, 0));
        bounded("2 high", BoundsTest::empty, 0, 5, OUTSIDE, n -> 0, (x, n) -> x.decision(0, n, 0));
        bounded("2 low, at most high", BoundsTest::few, 0, 3, OUTSIDE, n -> 2, (x, n) -> x.decision(n, 3, 0));
        bounded("2 high, at least low", BoundsTest::few, 2, 5, OUTSIDE, n -> 2, (x, n) -> x.decision(2, n, 0));
        bounded("2 the person", BoundsTest::few, 0, 3, OUTSIDE, n -> 2, (x, n) -> x.decision(0, 5, n));
        refused("2 all three outside", OUTSIDE, BoundsTest::few, x -> x.decision(6, -1, 4));
        refused("2 state", STATE, BoundsTest::kept, x -> x.decision(0, 5, 0));
        refused("2 room", ROOM, BoundsTest::sixDecisionsAndFacts, x -> x.decision(0, 5, 0));
        refused("2 outside ahead of state", OUTSIDE, BoundsTest::kept, x -> x.decision(0, 6, 0));
        refused("2 outside ahead of room", OUTSIDE, BoundsTest::sixDecisionsAndFacts, x -> x.decision(1, 0, 0));
        refused("2 state ahead of room", STATE, BoundsTest::full, x -> x.decision(0, 0, 0));
        refused("2 outside ahead of state and room", OUTSIDE, BoundsTest::full, x -> x.decision(0, 0, 4));
        for (int count = 0; count < 6; count++) {
            int number = count;
            due("2 the numbers rise", number, withDecisions(number, 0, 5).decision(1, 4, 0));
            NearPlans x = withDecisions(number, 0, 5);
            x.keep();
            due("2 kept or not", number == 0 ? 0 : STATE, x.decision(0, 0, 0));
        }
        NearPlans x = withDecisions(1, 0, 5);
        x.run();
        x.undo();
        due("2 a run is no kept plan", 1, x.decision(0, 5, 0));
        personsOfDecisions();
        firstOfDecisions();
    }

    private static void decisionOf(int low, int high, int person) {
        String what = "2 decision(" + low + ", " + high + ", " + person + ")";
        boolean inside = low >= 0 && high <= 5 && low <= high && person >= 0 && person <= 3;
        NearPlans x = empty();
        due(what, inside ? 0 : OUTSIDE, x.decision(low, high, person));
        due(what + " low at first", inside ? low : UNKNOWN, x.value(0));
        if (!inside) return;
        due(what + " below low", OUTSIDE, x.put(0, low - 1));
        due(what + " above high", OUTSIDE, x.put(0, high + 1));
        due(what + " high", low, x.put(0, high));
        due(what + " low", high, x.put(0, low));
        due(what + " so many values", high - low + 1, x.near(0));
    }

    private static void personsOfDecisions() {
        for (int person = 0; person < 4; person++) {
            for (int other = 0; other < 4; other++) {
                NearPlans x = empty();
                x.decision(0, 1, person);
                x.keep();
                x.put(0, 1);
                x.limit(other, 0);
                due("2 the person is its own", person == other ? 0 : 1, x.told(6));
            }
        }
    }

    private static void firstOfDecisions() {
        for (int d = 0; d < 6; d++) {
            NearPlans x = withDecisions(6, 1, 5);
            x.keep();
            x.put(d, 5);
            due("2 weight 1 and per 0 at first", 1, x.told(0));
            due("2 it may be moved and is not pinned at first", 1, x.told(6));
            for (int value = 0; value < 6; value++) due("2 no worth at first", 0, x.worth(d, value, 1));
        }
    }

    // ---- 3 weight

    private static void weight() {
        bounded("3 the weight", BoundsTest::few, 0, 100, OUTSIDE, n -> 1, (x, n) -> x.weight(0, n, 3));
        bounded("3 the per", BoundsTest::few, 0, 20, OUTSIDE, n -> 1, (x, n) -> x.weight(0, 50, n));
        bounded("3 the decision of none", BoundsTest::empty, 0, -1, UNKNOWN, n -> 1, (x, n) -> x.weight(n, 1, 1));
        bounded("3 the decision of two", BoundsTest::kept, 0, 1, UNKNOWN, n -> 1, (x, n) -> x.weight(n, 1, 1));
        bounded("3 the decision of six", BoundsTest::full, 0, 5, UNKNOWN, n -> 1, (x, n) -> x.weight(n, 1, 1));
        refused("3 both outside", OUTSIDE, BoundsTest::kept, x -> x.weight(0, 101, 21));
        refused("3 unknown ahead of outside", UNKNOWN, BoundsTest::kept, x -> x.weight(2, -1, 0));
        refused("3 unknown ahead of outside", UNKNOWN, BoundsTest::kept, x -> x.weight(2, 0, 21));
        refused("3 a good weight with a wrong per", OUTSIDE, BoundsTest::kept, x -> x.weight(0, 100, 21));
        refused("3 a good per with a wrong weight", OUTSIDE, BoundsTest::kept, x -> x.weight(0, 101, 20));
        for (int d = 0; d < 6; d++) {
            due("3 the greatest cost of one", 200, costOfMove(d, 100, 20, 5));
            due("3 the weight alone", 100, costOfMove(d, 100, 0, 5));
            due("3 the per alone, one far", 20, costOfMove(d, 0, 20, 1));
            due("3 nothing", 0, costOfMove(d, 0, 0, 5));
            due("3 not moved, no weight", 0, costOfMove(d, 100, 20, 0));
        }
        NearPlans free = withDecisions(1, 0, 5);
        free.weight(0, 0, 0);
        free.keep();
        free.put(0, 5);
        due("3 what costs nothing is moved", 1, free.told(2));
    }

    /** Up and down are as far. */
    private static int costOfMove(int decision, int weight, int per, int far) {
        NearPlans x = withDecisions(6, 0, 5);
        x.keep();
        x.put(decision, far);
        x.weight(decision, weight, per);
        int up = x.told(0);
        x.keep();
        x.put(decision, 0);
        due("3 down as up", up, x.told(0));
        return up;
    }

    // ---- 4 worth

    private static void worth() {
        bounded("4 the value", BoundsTest::few, 0, 5, OUTSIDE, n -> n == 2 ? 3 : n == 5 ? 8 : 0, (x, n) -> x.worth(0, n, 7));
        bounded("4 the worth", BoundsTest::few, 0, 100, OUTSIDE, n -> 3, (x, n) -> x.worth(0, 2, n));
        bounded("4 the decision of none", BoundsTest::empty, 0, -1, UNKNOWN, n -> 0, (x, n) -> x.worth(n, 0, 1));
        bounded("4 the decision of two", BoundsTest::kept, 0, 1, UNKNOWN, n -> 0, (x, n) -> x.worth(n, 0, 1));
        bounded("4 the decision of six", BoundsTest::full, 0, 5, UNKNOWN, n -> 0, (x, n) -> x.worth(n, 5, 1));
        refused("4 both outside", OUTSIDE, BoundsTest::few, x -> x.worth(0, 6, 101));
        refused("4 unknown ahead of outside", UNKNOWN, BoundsTest::few, x -> x.worth(2, 6, 0));
        refused("4 unknown ahead of outside", UNKNOWN, BoundsTest::few, x -> x.worth(-1, 0, 101));
        NearPlans x = withDecisions(6, 3, 3);
        for (int d = 0; d < 6; d++) {
            for (int value = 0; value < 6; value++) due("4 none before", 0, x.worth(d, value, 100 - d - value));
            for (int value = 0; value < 6; value++) due("4 each value has its own", 100 - d - value, x.worth(d, value, 100));
        }
        due("4 the greatest worth of all", 600, x.told(1));
        NearPlans narrow = empty();
        narrow.decision(1, 4, 0);
        narrow.worth(0, 0, 100);
        narrow.worth(0, 5, 100);
        narrow.worth(0, 4, 1);
        narrow.first(1);
        narrow.run();
        due("4 worth of a value that it can't have does not count", 4, narrow.value(0));
        due("4 nor in the plan", 1, narrow.told(1));
    }

    // ---- 5 pin

    private static void pin() {
        for (int low = 0; low <= 5; low++) {
            for (int high = low; high <= 5; high++) pinOf(low, high);
        }
        bounded("5 the decision of none", BoundsTest::empty, 0, -1, UNKNOWN, n -> 1, (x, n) -> x.pin(n, NONE));
        bounded("5 the decision of two", BoundsTest::kept, 0, 1, UNKNOWN, n -> 1, (x, n) -> x.pin(n, 2));
        bounded("5 the decision of six", BoundsTest::full, 0, 5, UNKNOWN, n -> 1, (x, n) -> x.pin(n, 2));
        bounded("5 to none", BoundsTest::full, 0, 5, UNKNOWN, n -> 1, (x, n) -> x.pin(n, NONE));
        // NONE is no value but it is not refused.
        bounded("5 pinned before", BoundsTest::fewPinned, 1, 4, OUTSIDE, n -> 1, (x, n) -> n == NONE ? OUTSIDE : x.pin(0, n));
        bounded("5 pinned before, two values", BoundsTest::kept, 2, 3, OUTSIDE, n -> 1, (x, n) -> n == NONE ? OUTSIDE : x.pin(1, n));
        refused("5 unknown ahead of outside", UNKNOWN, BoundsTest::kept, x -> x.pin(2, 6));
        refused("5 unknown ahead of outside", UNKNOWN, BoundsTest::kept, x -> x.pin(-1, -1));
        NearPlans all = withDecisions(6, 0, 5);
        for (int d = 0; d < 6; d++) all.pin(d, 5 - d);
        due("5 the plan stays and is not allowed", 0, all.told(6));
        due("5 all pinned, one plan is left", 1, all.near(0));
        due("5 all pinned", 0, all.run());
        for (int d = 0; d < 6; d++) due("5 all pinned", 5 - d, all.value(d));
        for (int d = 0; d < 6; d++) all.pin(d, NONE);
        due("5 none pinned", 46656, all.near(0));
    }

    private static NearPlans fewPinned() {
        NearPlans x = few();
        x.pin(0, 2);
        return x;
    }

    private static void pinOf(int low, int high) {
        Supplier<NearPlans> state = () -> withDecisions(2, low, high);
        for (int value : numbersAround(low, high)) {
            String what = "5 pin to " + value + " of " + low + " to " + high;
            boolean inside = value == NONE || (value >= low && value <= high);
            if (!inside) refused(what, OUTSIDE, state, x -> x.pin(1, value));
            else due(what, 1, state.get().pin(1, value));
        }
        for (int value = low; value <= high; value++) {
            NearPlans x = state.get();
            x.pin(1, value);
            due("5 the plan stays", low, x.value(1));
            due("5 allowed only at the pin", value == low ? 1 : 0, x.told(6));
            x.run();
            due("5 the best has it", value, x.value(1));
            due("5 the other is free", low, x.value(0));
        }
    }

    // ---- 6 limit

    private static void limit() {
        bounded("6 the person of none", BoundsTest::empty, 0, 3, OUTSIDE, n -> 6, (x, n) -> x.limit(n, 0));
        bounded("6 the person", BoundsTest::kept, 0, 3, OUTSIDE, n -> n == 0 ? 1 : n == 3 ? 2 : 6, (x, n) -> x.limit(n, 0));
        bounded("6 the limit", BoundsTest::kept, 0, 6, OUTSIDE, n -> 2, (x, n) -> x.limit(3, n));
        refused("6 both outside", OUTSIDE, BoundsTest::kept, x -> x.limit(4, 7));
        for (int person = 0; person < 4; person++) {
            NearPlans x = empty();
            for (int n = 0; n <= 6; n++) due("6 what it was", n == 0 ? 6 : n - 1, x.limit(person, n));
            for (int other = 0; other < 4; other++) due("6 the others have their own", 6, x.limit(other, 6));
        }
        for (int n = 0; n <= 6; n++) {
            for (int moved = 0; moved <= 6; moved++) {
                NearPlans x = ofPersonZero(6);
                x.keep();
                for (int d = 0; d < moved; d++) x.put(d, 1);
                x.limit(0, n);
                due("6 limit " + n + " and " + moved + " moved", moved <= n ? 1 : 0, x.told(6));
            }
        }
        int[] plansWithin = {1, 7, 22, 42, 57, 63, 64};
        for (int n = 0; n <= 6; n++) {
            NearPlans x = ofPersonZero(6);
            x.limit(0, n);
            due("6 without a base none is moved", 64, x.near(0));
            x.keep();
            due("6 so many plans move at most " + n, plansWithin[n], x.near(2000));
        }
    }

    // ---- 7 fact

    private static void fact() {
        bounded("7 the first fact", BoundsTest::empty, -20, 20, OUTSIDE, n -> 0, (x, n) -> x.fact(n));
        bounded("7 the third fact", BoundsTest::few, -20, 20, OUTSIDE, n -> 2, (x, n) -> x.fact(n));
        refused("7 state", STATE, BoundsTest::kept, x -> x.fact(0));
        refused("7 room", ROOM, BoundsTest::sixDecisionsAndFacts, x -> x.fact(0));
        refused("7 outside ahead of state", OUTSIDE, BoundsTest::kept, x -> x.fact(21));
        refused("7 outside ahead of room", OUTSIDE, BoundsTest::sixDecisionsAndFacts, x -> x.fact(-21));
        refused("7 state ahead of room", STATE, BoundsTest::full, x -> x.fact(20));
        refused("7 outside ahead of state and room", OUTSIDE, BoundsTest::full, x -> x.fact(MOST));
        for (int v = -20; v <= 20; v++) {
            NearPlans x = empty();
            x.fact(v);
            due("7 the fact is what was told", v, x.change(0, 0));
        }
        NearPlans x = empty();
        for (int i = 0; i < 6; i++) due("7 the numbers rise", i, x.fact(20 - i));
        due("7 no seventh", ROOM, x.fact(0));
        for (int i = 0; i < 6; i++) due("7 all six are there", 20 - i, x.change(i, 0));
        NearPlans refusedKeep = empty();
        refusedKeep.keep();
        due("7 a refused keep() keeps nothing", 0, refusedKeep.fact(0));
        due("7 a refused keep() keeps nothing", 0, refusedKeep.decision(0, 0, 0));
    }

    // ---- 8 change

    private static void change() {
        bounded("8 what it becomes", BoundsTest::few, -20, 20, OUTSIDE, n -> -3, (x, n) -> x.change(1, n));
        bounded("8 what it becomes, behind a kept plan", BoundsTest::full, -20, 20, OUTSIDE, n -> 6, (x, n) -> x.change(5, n));
        bounded("8 the fact of none", BoundsTest::empty, 0, -1, UNKNOWN, n -> 0, (x, n) -> x.change(n, 0));
        bounded("8 the fact of two", BoundsTest::few, 0, 1, UNKNOWN, n -> n == 0 ? 7 : -3, (x, n) -> x.change(n, 0));
        int[] facts = {1, 2, 1, 6, 5, 6};
        bounded("8 the fact of six", BoundsTest::full, 0, 5, UNKNOWN, n -> facts[n], (x, n) -> x.change(n, 0));
        refused("8 unknown ahead of outside", UNKNOWN, BoundsTest::few, x -> x.change(2, 21));
        refused("8 unknown ahead of outside", UNKNOWN, BoundsTest::few, x -> x.change(-1, LEAST));
        NearPlans x = empty();
        x.fact(-20);
        for (int v = -19; v <= 20; v++) due("8 what it was, also if that is the number of a refusal", v - 1, x.change(0, v));
        due("8 to the same", 20, x.change(0, 20));
        due("8 to the same", 20, x.change(0, -20));
    }

    // ---- 9 rule

    private static void rule() {
        bounded("9 the kind", BoundsTest::few, 0, 5, OUTSIDE, n -> 2, (x, n) -> x.rule(n, 0, 1, 0));
        bounded("9 b of 5", BoundsTest::few, 0, 5, OUTSIDE, n -> 2, (x, n) -> x.rule(5, 0, n, 0));
        for (int a : numbersAround(0, 5)) due("9 a of 5 is not looked at", 2, few().rule(5, a, 0, 0));
        bounded("9 the fact of 5", BoundsTest::few, 0, 1, UNKNOWN, n -> 2, (x, n) -> x.rule(5, 0, 0, n));
        for (int kind = 0; kind < 5; kind++) {
            int k = kind;
            bounded("9 a of two, kind " + k, BoundsTest::few, 0, 1, UNKNOWN, n -> 2, (x, n) -> x.rule(k, n, 0, 0));
            bounded("9 b of two, kind " + k, BoundsTest::few, 0, 1, UNKNOWN, n -> 2, (x, n) -> x.rule(k, 0, n, 0));
            bounded("9 a of six, kind " + k, BoundsTest::sixDecisionsAndFacts, 0, 5, UNKNOWN, n -> 0, (x, n) -> x.rule(k, n, 5, 5));
            bounded("9 b of six, kind " + k, BoundsTest::sixDecisionsAndFacts, 0, 5, UNKNOWN, n -> 0, (x, n) -> x.rule(k, 5, n, 5));
            bounded("9 the fact of two, kind " + k, BoundsTest::few, 0, 1, UNKNOWN, n -> 2, (x, n) -> x.rule(k, 0, 1, n));
            bounded("9 the fact of six, kind " + k, BoundsTest::sixDecisionsAndFacts, 0, 5, UNKNOWN, n -> 0, (x, n) -> x.rule(k, 0, 1, n));
            due("9 a and b may be one, kind " + k, 2, few().rule(k, 1, 1, 0));
            due("9 behind a kept plan, kind " + k, 2, kept().rule(k, 1, 0, 1));
            refused("9 room, kind " + k, ROOM, BoundsTest::full, x -> x.rule(k, 5, 0, 5));
            refused("9 unknown ahead of room, kind " + k, UNKNOWN, BoundsTest::full, x -> x.rule(k, 6, 0, 0));
            refused("9 unknown ahead of room, kind " + k, UNKNOWN, BoundsTest::full, x -> x.rule(k, 0, -1, 0));
            refused("9 unknown ahead of room, kind " + k, UNKNOWN, BoundsTest::full, x -> x.rule(k, 0, 0, 6));
            refused("9 no decision, kind " + k, UNKNOWN, BoundsTest::oneFact, x -> x.rule(k, 0, 0, 0));
        }
        refused("9 outside (kind) ahead of unknown", OUTSIDE, BoundsTest::empty, x -> x.rule(6, 9, 9, 9));
        refused("9 outside (b) ahead of unknown", OUTSIDE, BoundsTest::empty, x -> x.rule(5, 0, 6, 0));
        refused("9 outside (kind) ahead of room", OUTSIDE, BoundsTest::full, x -> x.rule(-1, 0, 0, 0));
        refused("9 outside (b) ahead of room", OUTSIDE, BoundsTest::full, x -> x.rule(5, 0, -1, 0));
        refused("9 outside ahead of unknown and room", OUTSIDE, BoundsTest::full, x -> x.rule(5, 0, 6, 6));
        refused("9 unknown (fact of 5) ahead of room", UNKNOWN, BoundsTest::full, x -> x.rule(5, 0, 0, 6));
        refused("9 room, kind 5", ROOM, BoundsTest::full, x -> x.rule(5, 0, 0, 0));
        due("9 kind 5 without a decision", 0, oneFact().rule(5, 0, 5, 0));
        for (int kind = 0; kind <= 5; kind++) twelveRules(kind);
    }

    private static NearPlans oneFact() {
        NearPlans x = empty();
        x.fact(0);
        return x;
    }

    private static void twelveRules(int kind) {
        NearPlans x = withDecisions(2, 0, 5);
        x.fact(0);
        for (int i = 0; i < 12; i++) due("9 the numbers rise, kind " + kind, i, x.rule(kind, 1, 1, 0));
        due("9 no thirteenth, kind " + kind, ROOM, x.rule(kind, 1, 1, 0));
        due("9 no thirteenth of another kind", ROOM, x.rule((kind + 1) % 6, 1, 1, 0));
        x.change(0, kind == 2 || kind == 3 ? 20 : -20);
        due("9 all twelve are broken, kind " + kind, 12, x.told(4));
        due("9 all twelve are broken, kind " + kind, 4095, x.told(5));
        due("9 none holds, kind " + kind, NONE, x.least());
        x.change(0, kind == 2 || kind == 3 ? -20 : 20);
        due("9 all twelve hold, kind " + kind, 0, x.told(5));
    }

    /** Each kind with every two values and every fact, judged by the plan and by the search. */
    private static void ruleKinds() {
        for (int kind = 0; kind <= 4; kind++) {
            for (int bound = -20; bound <= 20; bound++) {
                int holding = 0;
                for (int x = 0; x <= 5; x++) {
                    for (int y = 0; y <= 5; y++) {
                        int holds = holds(kind, x, y, bound) ? 1 : 0;
                        holding += holds;
                        String what = "9 kind " + kind + " of " + x + ", " + y + " and " + bound;
                        due(what, 1 - holds, brokenOf(kind, x, y, bound, 0, 1));
                        due(what + ", the later one first", 1 - holds, brokenOf(kind, x, y, bound, 1, 0));
                        if (x == y) due(what + ", a and b one", 1 - holds, brokenOf(kind, x, x, bound, 1, 1));
                    }
                }
                NearPlans all = withDecisions(2, 0, 5);
                all.fact(bound);
                all.rule(kind, 1, 0, 0);
                due("9 so many plans hold, kind " + kind + " and " + bound, holding, all.near(0));
                int alone = 0;
                for (int x = 0; x <= 5; x++) alone += holds(kind, x, x, bound) ? 1 : 0;
                NearPlans one = withDecisions(2, 0, 5);
                one.fact(bound);
                one.rule(kind, 1, 1, 0);
                due("9 so many plans hold, a and b one, kind " + kind + " and " + bound, 6 * alone, one.near(0));
            }
        }
        for (int value = 0; value <= 5; value++) {
            for (int bound = -20; bound <= 20; bound++) crowdOf(value, bound);
        }
    }

    private static boolean holds(int kind, int x, int y, int bound) {
        int apart = x > y ? x - y : y - x;
        boolean[] all = {x - y <= bound, x + y <= bound, x + y >= bound, apart >= bound, apart <= bound};
        return all[kind];
    }

    private static int brokenOf(int kind, int x, int y, int bound, int a, int b) {
        NearPlans n = withDecisions(2, 0, 5);
        n.fact(bound);
        n.rule(kind, a, b, 0);
        n.put(a, x);
        n.put(b, y);
        return n.told(4);
    }

    private static void crowdOf(int value, int bound) {
        NearPlans x = empty();
        x.fact(bound);
        x.rule(5, MOST, value, 0);
        due("9 kind 5 of no decision and " + bound, 0 <= bound ? 0 : 1, x.told(4));
        for (int d = 0; d < 6; d++) x.decision(0, 5, 0);
        int other = (value + 1) % 6;
        for (int d = 0; d < 6; d++) x.put(d, other);
        due("9 kind 5 of none that has it and " + bound, 0 <= bound ? 0 : 1, x.told(4));
        for (int d = 0; d < 6; d++) {
            x.put(d, value);
            due("9 kind 5 of " + (d + 1) + " and " + bound, d + 1 <= bound ? 0 : 1, x.told(4));
        }
        x.run();
        int with = 0;
        for (int d = 0; d < 6; d++) with += x.value(d) == value ? 1 : 0;
        if (bound >= 0) due("9 kind 5, run() keeps it", 1, with <= bound ? 1 : 0);
        else due("9 kind 5, no plan holds", 6, with);
    }

    // ---- 10 first

    private static void first() {
        bounded("10 which, near first before", BoundsTest::few, 0, 1, OUTSIDE, n -> 0, (x, n) -> x.first(n));
        bounded("10 which, worth first before", BoundsTest::kept, 0, 1, OUTSIDE, n -> 1, (x, n) -> x.first(n));
        bounded("10 which, without a decision", BoundsTest::empty, 0, 1, OUTSIDE, n -> 0, (x, n) -> x.first(n));
        NearPlans x = empty();
        int[][] row = {{0, 0}, {1, 0}, {1, 1}, {0, 1}, {0, 0}};
        for (int[] call : row) due("10 what it was", call[1], x.first(call[0]));
    }

    // ---- 11 put

    private static void put() {
        for (int low = 0; low <= 5; low++) {
            for (int high = low; high <= 5; high++) {
                int l = low, h = high;
                bounded("11 of " + l + " to " + h, () -> withDecisions(2, l, h), l, h, OUTSIDE, n -> l, (x, n) -> x.put(1, n));
            }
        }
        bounded("11 of 1 to 4, with 3", BoundsTest::few, 1, 4, OUTSIDE, n -> 3, (x, n) -> x.put(0, n));
        bounded("11 of 0 to 5, with 4", () -> sixWith(4, 4, 4, 4, 4, 4), 0, 5, OUTSIDE, n -> 4, (x, n) -> x.put(5, n));
        bounded("11 the decision of none", BoundsTest::empty, 0, -1, UNKNOWN, n -> 0, (x, n) -> x.put(n, 0));
        bounded("11 the decision of two", BoundsTest::few, 0, 1, UNKNOWN, n -> n == 0 ? 3 : 2, (x, n) -> x.put(n, 3));
        int[] values = valuesOf(full());
        bounded("11 the decision of six", BoundsTest::full, 0, 5, UNKNOWN, n -> values[n], (x, n) -> x.put(n, 2));
        refused("11 unknown ahead of outside", UNKNOWN, BoundsTest::few, x -> x.put(2, 6));
        refused("11 unknown ahead of outside", UNKNOWN, BoundsTest::few, x -> x.put(-1, -1));
        NearPlans x = withDecisions(1, 0, 5);
        x.pin(0, 3);
        for (int v = 1; v <= 5; v++) due("11 pinned or not", v - 1, x.put(0, v));
        due("11 the same again", 5, x.put(0, 5));
        due("11 a put is not to be undone", STATE, x.undo());
        NearPlans held = withDecisions(1, 0, 5);
        held.keep();
        held.limit(0, 0);
        due("11 whatever the limit is", 0, held.put(0, 5));
        due("11 then it is not allowed", 0, held.told(6));
        due("11 the kept plan stays", 0, held.old(0, 0));
    }

    private static int[] valuesOf(NearPlans x) {
        int[] values = new int[6];
        for (int d = 0; d < 6; d++) values[d] = x.value(d);
        return values;
    }

    // ---- 12 value

    private static void value() {
        bounded("12 of none", BoundsTest::empty, 0, -1, UNKNOWN, n -> 0, (x, n) -> x.value(n));
        bounded("12 of two", BoundsTest::few, 0, 1, UNKNOWN, n -> n == 0 ? 3 : 2, (x, n) -> x.value(n));
        bounded("12 of six", () -> sixWith(0, 1, 2, 3, 4, 5), 0, 5, UNKNOWN, n -> n, (x, n) -> x.value(n));
        bounded("12 of six", () -> sixWith(5, 4, 3, 2, 1, 0), 0, 5, UNKNOWN, n -> 5 - n, (x, n) -> x.value(n));
    }

    private static NearPlans sixWith(int... values) {
        NearPlans x = withDecisions(6, 0, 5);
        for (int d = 0; d < 6; d++) x.put(d, values[d]);
        return x;
    }

    // ---- 13 keep

    private static void keep() {
        refused("13 no decision", STATE, BoundsTest::empty, x -> x.keep());
        refused("13 no decision, but a fact", STATE, BoundsTest::oneFact, x -> x.keep());
        refused("13 room", ROOM, BoundsTest::full, x -> x.keep());
        NearPlans x = withDecisions(1, 0, 5);
        for (int i = 0; i < 3; i++) {
            x.put(0, i + 1);
            due("13 the numbers rise", i, x.keep());
            due("13 it is the base", i, x.told(7));
        }
        x.put(0, 5);
        due("13 no fourth", ROOM, x.keep());
        due("13 the base stays", 2, x.told(7));
        for (int i = 0; i < 3; i++) due("13 each as it was", i + 1, x.old(i, 0));
        NearPlans bad = withDecisions(1, 0, 5);
        bad.fact(-1);
        bad.rule(5, 0, 0, 0);
        bad.pin(0, 3);
        due("13 a plan that is not allowed and does not hold", 0, bad.keep());
        NearPlans six = sixWith(5, 4, 3, 2, 1, 0);
        six.keep();
        six.run();
        for (int d = 0; d < 6; d++) due("13 all six values", 5 - d, six.old(0, d));
        for (int f = 0; f < 6; f++) due("13 fact " + f + " is kept, too", f, movedBy(0, f).why(0));
        keptFactsOfThree();
    }

    /** Only why() tells a fact as it was. */
    private static void keptFactsOfThree() {
        NearPlans x = withDecisions(1, 0, 5);
        x.fact(0);
        x.rule(2, 0, 0, 0);
        for (int n = 0; n < 3; n++) {
            x.change(0, 2 * n);
            x.put(0, n);
            x.keep();
        }
        x.put(0, 5);
        for (int now = 0; now <= 6; now += 2) {
            x.change(0, now);
            for (int n = 0; n < 3; n++) {
                x.base(n);
                due("13 each has its own facts", now == 2 * n ? NONE : 0, x.why(0));
            }
        }
    }

    // ---- 14 base

    private static void base() {
        bounded("14 of none", BoundsTest::few, 0, -1, UNKNOWN, n -> 0, (x, n) -> x.base(n));
        bounded("14 of one", BoundsTest::kept, 0, 0, UNKNOWN, n -> 0, (x, n) -> x.base(n));
        bounded("14 of three", BoundsTest::full, 0, 2, UNKNOWN, n -> 1, (x, n) -> x.base(n));
        NearPlans x = withDecisions(1, 0, 5);
        for (int i = 0; i < 3; i++) {
            x.put(0, i);
            x.keep();
        }
        int was = 2;
        for (int kept : new int[] {0, 1, 2, 2, 1, 0}) {
            due("14 which was", was, x.base(kept));
            due("14 which is", kept, x.told(7));
            due("14 moved or not", kept == 2 ? 0 : 1, x.told(2));
            was = kept;
        }
        NearPlans two = withDecisions(1, 0, 5);
        two.keep();
        two.keep();
        two.base(0);
        due("14 the latest one kept or told: told, then kept", 2, two.keep());
        due("14 the latest one kept or told: told, then kept", 2, two.base(1));
        due("14 the latest one kept or told: kept, then told", 1, two.told(7));
    }

    // ---- 15 old

    private static void old() {
        bounded("15 the plan of none", BoundsTest::few, 0, -1, UNKNOWN, n -> 0, (x, n) -> x.old(n, 0));
        bounded("15 the plan of one", BoundsTest::kept, 0, 0, UNKNOWN, n -> 3, (x, n) -> x.old(n, 0));
        bounded("15 the plan of three", BoundsTest::threePlans, 0, 2, UNKNOWN, n -> n + 3, (x, n) -> x.old(n, 5));
        bounded("15 the decision of two", BoundsTest::kept, 0, 1, UNKNOWN, n -> n == 0 ? 3 : 2, (x, n) -> x.old(0, n));
        bounded("15 the decision of six", BoundsTest::threePlans, 0, 5, UNKNOWN, n -> n == 5 ? 5 : n % 3 + 2, (x, n) -> x.old(2, n));
        refused("15 both unknown", UNKNOWN, BoundsTest::threePlans, x -> x.old(3, 6));
        refused("15 both unknown", UNKNOWN, BoundsTest::empty, x -> x.old(0, 0));
        refused("15 both unknown", UNKNOWN, BoundsTest::threePlans, x -> x.old(LEAST, MOST));
    }

    /** Plan n has the values d % 3 + n, but the last decision 3 + n. */
    private static NearPlans threePlans() {
        NearPlans x = withDecisions(6, 0, 5);
        for (int n = 0; n < 3; n++) {
            for (int d = 0; d < 6; d++) x.put(d, d == 5 ? 3 + n : d % 3 + n);
            x.keep();
        }
        return x;
    }

    // ---- 16 run

    private static void run() {
        refused("16 no decision", STATE, BoundsTest::empty, x -> x.run());
        refused("16 no decision, but a rule that can't hold", STATE, BoundsTest::ruleWithoutDecision, x -> x.run());
        refused("16 none holds: all stays", NONE, BoundsTest::noneHolds, x -> x.run());
        refused("16 none is allowed: all stays", NONE, BoundsTest::noneAllowed, x -> x.run());
        for (int d = 0; d < 6; d++) {
            for (int low = 0; low <= 5; low++) {
                NearPlans x = withDecisions(6, low, 5);
                x.put(d, 5);
                due("16 without a base and rules", 0, x.run());
                due("16 the least values", low, x.value(d));
            }
        }
        NearPlans one = withDecisions(1, 4, 4);
        due("16 one plan only", 0, one.run());
        due("16 one plan only", 4, one.value(0));
        NearPlans dearest = withDecisions(6, 0, 5);
        for (int d = 0; d < 6; d++) dearest.weight(d, 100, 20);
        dearest.keep();
        for (int d = 0; d < 6; d++) dearest.pin(d, 5);
        due("16 the greatest cost", 1200, dearest.run());
        due("16 the greatest cost", 1200, dearest.told(0));
        NearPlans free = withDecisions(6, 0, 5);
        for (int d = 0; d < 6; d++) free.weight(d, 0, 0);
        free.keep();
        for (int d = 0; d < 6; d++) free.pin(d, 5);
        due("16 the least cost", 0, free.run());
        due("16 all are moved", 63, free.told(3));
        for (int d = 0; d < 6; d++) {
            for (int value = 0; value < 6; value++) worthOfOne(d, value);
        }
        equals();
    }

    /** The worth of each value of each decision is found, also of the first and the last. */
    private static void worthOfOne(int decision, int value) {
        NearPlans x = withDecisions(6, 0, 5);
        x.first(1);
        x.worth(decision, value, 1);
        x.put(decision, (value + 1) % 6);
        x.keep();
        due("16 worth first moves it", 1, x.run());
        due("16 worth first moves it", value, x.value(decision));
        due("16 no other one", 1 << decision, x.told(3));
        x.first(0);
        due("16 near first does not", 0, x.run());
        due("16 near first does not", (value + 1) % 6, x.value(decision));
        if (decision == 0) return;
        NearPlans both = withDecisions(6, 0, 5);
        both.first(1);
        both.worth(0, 1, 1);
        both.worth(decision, value, 100);
        both.run();
        due("16 the worths of two", 101, both.told(1));
        due("16 the worths of two", value, both.value(decision));
        due("16 the worths of two", 1, both.value(0));
    }

    private static NearPlans ruleWithoutDecision() {
        NearPlans x = empty();
        x.fact(-1);
        x.rule(5, 0, 0, 0);
        return x;
    }

    private static NearPlans noneHolds() {
        NearPlans x = kept();
        x.change(0, -20);
        return x;
    }

    /** A pinned decision of a person who must not be moved. */
    private static NearPlans noneAllowed() {
        NearPlans x = few();
        x.keep();
        x.pin(0, 1);
        x.limit(0, 0);
        return x;
    }

    /** Of equals the one with the lesser value where they first differ, at the first decision and at the last. */
    private static void equals() {
        for (int which = 0; which <= 1; which++) {
            NearPlans x = withDecisions(6, 0, 5);
            x.fact(5);
            x.rule(2, 0, 5, 0);
            x.first(which);
            due("16 equals", 0, x.run());
            int[] lesserFirst = {0, 0, 0, 0, 0, 5};
            for (int d = 0; d < 6; d++) due("16 equals", lesserFirst[d], x.value(d));
            x.put(0, 2);
            x.put(5, 2);
            x.keep();
            due("16 equals in cost: one alone", 1, x.run());
            due("16 equals in cost: the first stays", 2, x.value(0));
            due("16 equals in cost: the least that suffices", 3, x.value(5));
            x.worth(0, 3, 1);
            due("16 equal in cost, worth more", 1, x.run());
            due("16 equal in cost, worth more", 3, x.value(0));
            due("16 equal in cost, worth more", 2, x.value(5));
            x.weight(0, 2, 0);
            due("16 near first or worth first", which == 0 ? 1 : 2, x.run());
            due("16 near first or worth first", which == 0 ? 2 : 3, x.value(0));
        }
    }

    // ---- 17 undo

    private static void undo() {
        refused("17 no decision", STATE, BoundsTest::empty, x -> x.undo());
        refused("17 no run", STATE, BoundsTest::sixDecisionsAndFacts, x -> x.undo());
        refused("17 all undone", STATE, BoundsTest::allUndone, x -> x.undo());
        refused("17 only runs that were refused", STATE, BoundsTest::onlyRefusedRuns, x -> x.undo());
        for (int runs = 1; runs <= 10; runs++) {
            NearPlans x = withDecisions(1, 0, 5);
            for (int i = 0; i < runs; i++) {
                x.put(0, i % 5 + 1);
                due("17 run", 0, x.run());
            }
            int known = Math.min(runs, 8);
            for (int i = 1; i <= known; i++) {
                due("17 so many more of " + runs, known - i, x.undo());
                due("17 the value before", (runs - i) % 5 + 1, x.value(0));
            }
            due("17 no more of " + runs, STATE, x.undo());
            due("17 the oldest known stays", (runs - known) % 5 + 1, x.value(0));
        }
        NearPlans same = withDecisions(1, 0, 5);
        same.run();
        same.run();
        due("17 a run that changes nothing counts", 1, same.undo());
        due("17 a run that changes nothing counts", 0, same.undo());
        undoAndRun();
        undoAndDecisions();
        undoOfForgottenRuns();
        undoAndTheRest();
        undoBehindManyRuns();
    }

    private static NearPlans allUndone() {
        NearPlans x = kept();
        for (int i = 0; i < 2; i++) x.undo();
        return x;
    }

    private static NearPlans onlyRefusedRuns() {
        NearPlans x = ruleWithoutDecision();
        x.run();
        x.decision(0, 5, 0);
        x.run();
        return x;
    }

    private static void undoAndRun() {
        NearPlans x = withDecisions(1, 0, 5);
        for (int i = 1; i <= 8; i++) {
            x.put(0, i % 6);
            x.run();
        }
        due("17 one of eight", 7, x.undo());
        x.put(0, 5);
        x.run();
        x.put(0, 4);
        x.run();
        due("17 again eight", 7, x.undo());
        due("17 the latest", 4, x.value(0));
        due("17 the one before", 6, x.undo());
        due("17 the one before", 5, x.value(0));
        due("17 the undone one is gone", 5, x.undo());
        due("17 the undone one is gone", 1, x.value(0));
    }

    private static void undoAndDecisions() {
        NearPlans x = withDecisions(1, 1, 5);
        x.put(0, 3);
        x.run();
        for (int d = 1; d < 6; d++) x.decision(d % 3, 5, 0);
        for (int d = 1; d < 6; d++) x.put(d, 5);
        due("17 decisions that came behind it stay", 0, x.undo());
        int[] stay = {3, 5, 5, 5, 5, 5};
        for (int d = 0; d < 6; d++) due("17 decisions that came behind it stay", stay[d], x.value(d));
        due("17 there are six still", ROOM, x.decision(0, 5, 0));
        NearPlans none = withDecisions(1, 0, 5);
        none.put(0, 4);
        none.run();
        none.decision(2, 5, 0);
        none.run();
        none.put(1, 5);
        due("17 two runs of one and two decisions", 1, none.undo());
        due("17 the second was there before its run", 2, none.value(1));
        none.put(1, 3);
        due("17 two runs of one and two decisions", 0, none.undo());
        due("17 the first as it was", 4, none.value(0));
        due("17 the second stays", 3, none.value(1));
    }

    /** With five runs of one decision and five of two, the eight that are known are three of one and five of two. */
    private static void undoOfForgottenRuns() {
        NearPlans x = withDecisions(1, 0, 5);
        for (int i = 0; i < 10; i++) {
            if (i == 5) x.decision(0, 5, 0);
            x.put(0, i % 5 + 1);
            if (i >= 5) x.put(1, i % 5 + 1);
            x.run();
        }
        x.put(1, 0);
        int[] second = {1, 1, 1, 1, 2, 3, 4, 5};
        for (int i = 7; i >= 0; i--) {
            due("17 eight of ten are known", i, x.undo());
            due("17 the first decision of run " + (i + 2), (i + 2) % 5 + 1, x.value(0));
            due("17 the second decision, " + i + " more", second[i], x.value(1));
        }
        due("17 no ninth of ten", STATE, x.undo());
    }

    private static void undoBehindManyRuns() {
        NearPlans x = withDecisions(1, 0, 5);
        for (int i = 0; i < 247; i++) {
            x.put(0, i % 6);
            due("17 a run of many", 0, x.run());
        }
        for (int i = 7; i >= 0; i--) due("17 eight of many", i, x.undo());
        due("17 no ninth of many", STATE, x.undo());
        due("17 the eighth of many", (247 - 8) % 6, x.value(0));
    }

    /** Only THE PLAN is undone. */
    private static void undoAndTheRest() {
        NearPlans x = withDecisions(1, 0, 5);
        x.fact(1);
        x.rule(2, 0, 0, 0);
        x.keep();
        x.put(0, 4);
        x.run();
        x.change(0, 7);
        x.pin(0, 5);
        x.limit(0, 3);
        x.first(1);
        x.weight(0, 5, 5);
        x.keep();
        due("17 undo", 0, x.undo());
        due("17 the plan alone", 4, x.value(0));
        due("17 the base stays", 1, x.told(7));
        due("17 the fact stays", 7, x.change(0, 7));
        due("17 the limit stays", 3, x.limit(0, 3));
        due("17 worth first stays", 1, x.first(1));
        due("17 the weight stays", 5 + 15, x.told(0));
        due("17 the pin stays", 0, x.told(6));
        due("17 the kept plan stays", 1, x.old(1, 0));
    }

    // ---- 18 told

    private static void told() {
        int[] none = {0, 0, 0, 0, 0, 0, 1, NONE};
        bounded("18 of nothing", BoundsTest::empty, 0, 7, OUTSIDE, n -> none[n], (x, n) -> x.told(n));
        bounded("18 without a base", () -> withDecisions(6, 0, 5), 0, 7, OUTSIDE, n -> none[n], (x, n) -> x.told(n));
        int[] most = {1200, 600, 6, 63, 12, 4095, 1, 2};
        bounded("18 of all that there may be", BoundsTest::utmost, 0, 7, OUTSIDE, n -> most[n], (x, n) -> x.told(n));
        for (int d = 0; d < 6; d++) {
            NearPlans x = withDecisions(6, 0, 5);
            x.keep();
            x.put(d, 1);
            due("18 one is moved", 1, x.told(2));
            due("18 its bit", 1 << d, x.told(3));
        }
        for (int r = 0; r < 12; r++) {
            NearPlans x = withDecisions(1, 0, 5);
            x.fact(0);
            x.fact(1);
            for (int i = 0; i < 12; i++) x.rule(3, 0, 0, i == r ? 1 : 0);
            due("18 one rule is broken", 1, x.told(4));
            due("18 its bit", 1 << r, x.told(5));
        }
        NearPlans x = withDecisions(1, 0, 5);
        x.put(0, 5);
        due("18 without a base nothing is moved", 0, x.told(3));
        due("18 without a base nothing costs", 0, x.told(0));
        x.limit(0, 0);
        due("18 without a base no limit counts", 1, x.told(6));
    }

    private static NearPlans utmost() {
        NearPlans x = withDecisions(6, 0, 5);
        x.fact(20);
        for (int r = 0; r < 12; r++) x.rule(2, r % 6, 5, 0);
        for (int i = 0; i < 3; i++) x.keep();
        for (int d = 0; d < 6; d++) {
            x.weight(d, 100, 20);
            x.worth(d, 5, 100);
            x.put(d, 5);
        }
        return x;
    }

    // ---- 19 near

    private static void near() {
        bounded("19 without a decision", BoundsTest::empty, 0, 2000, OUTSIDE, n -> STATE, (x, n) -> x.near(n));
        bounded("19 without a decision, with a rule", BoundsTest::ruleWithoutDecision, 0, 2000, OUTSIDE, n -> STATE, (x, n) -> x.near(n));
        bounded("19 none holds", BoundsTest::noneHolds, 0, 2000, OUTSIDE, n -> 0, (x, n) -> x.near(n));
        bounded("19 none is allowed", BoundsTest::noneAllowed, 0, 2000, OUTSIDE, n -> 0, (x, n) -> x.near(n));
        bounded("19 as many as have that cost at most", BoundsTest::steps, 0, 2000, OUTSIDE, n -> n < 101 ? 1 : 1 + Math.min(5, n - 100),
            (x, n) -> x.near(n));
        NearPlans steps = steps();
        int[][] rows = {{100, 1}, {101, 2}, {102, 3}, {104, 5}, {105, 6}, {106, 6}, {2000, 6}};
        for (int[] row : rows) due("19 near(" + row[0] + ")", row[1], steps.near(row[0]));
        NearPlans dearest = withDecisions(6, 0, 5);
        for (int d = 0; d < 6; d++) dearest.weight(d, 100, 20);
        dearest.keep();
        due("19 all but the dearest", 46655, dearest.near(1199));
        due("19 all", 46656, dearest.near(1200));
        due("19 the base alone", 1, dearest.near(0));
        due("19 the base alone", 1, dearest.near(119));
        due("19 one of six one far", 7, dearest.near(120));
        due("19 all, without a base", 46656, withDecisions(6, 0, 5).near(0));
        due("19 one plan only", 1, withDecisions(6, 3, 3).near(0));
    }

    private static NearPlans steps() {
        NearPlans x = withDecisions(1, 0, 5);
        x.weight(0, 100, 1);
        x.keep();
        return x;
    }

    // ---- 20 least

    private static void least() {
        refused("20 no decision", STATE, BoundsTest::empty, x -> x.least());
        refused("20 no decision, but a rule that can't hold", STATE, BoundsTest::ruleWithoutDecision, x -> x.least());
        due("20 none holds", NONE, noneHolds().least());
        due("20 none is allowed", NONE, noneAllowed().least());
        due("20 without a base", 0, few().least());
        due("20 of twelve rules none holds", NONE, utmost().least());
        NearPlans x = steps();
        due("20 the base itself", 0, x.least());
        for (int value = 1; value <= 5; value++) {
            x.pin(0, value);
            due("20 the only plan", 100 + value, x.least());
        }
        NearPlans dearest = withDecisions(6, 0, 5);
        dearest.fact(10);
        for (int d = 0; d < 6; d++) {
            dearest.weight(d, 100, 20);
            dearest.rule(2, d, d, 0);
        }
        dearest.keep();
        due("20 the greatest", 1200, dearest.least());
        dearest.change(0, 11);
        due("20 none", NONE, dearest.least());
    }

    // ---- 21 without

    private static void without() {
        bounded("21 of no rule and no decision", BoundsTest::empty, 0, -1, UNKNOWN, n -> 0, (x, n) -> x.without(n));
        bounded("21 of no rule", BoundsTest::sixDecisionsAndFacts, 0, -1, UNKNOWN, n -> 0, (x, n) -> x.without(n));
        bounded("21 unknown ahead of state", BoundsTest::ruleWithoutDecision, 0, 0, UNKNOWN, n -> STATE, (x, n) -> x.without(n));
        refused("21 state", STATE, BoundsTest::ruleWithoutDecision, x -> x.without(0));
        bounded("21 of two", BoundsTest::few, 0, 1, UNKNOWN, n -> 0, (x, n) -> x.without(n));
        bounded("21 of twelve, none holds", BoundsTest::utmost, 0, 11, UNKNOWN, n -> NONE, (x, n) -> x.without(n));
        for (int r = 0; r < 12; r++) {
            NearPlans x = oneOfTwelve(r);
            due("21 none holds with all", NONE, x.least());
            for (int i = 0; i < 12; i++) due("21 rule " + i + " when " + r + " can't hold", i == r ? 0 : NONE, x.without(i));
        }
        for (int r = 0; r < 12; r++) crowdOfTwelve(r);
        NearPlans pinned = noneAllowed();
        due("21 none is allowed", NONE, pinned.without(0));
        due("21 none is allowed", NONE, pinned.without(1));
    }

    /** Of twelve rules this one can't hold. */
    private static NearPlans oneOfTwelve(int rule) {
        NearPlans x = withDecisions(2, 0, 5);
        x.fact(0);
        x.fact(1);
        for (int r = 0; r < 12; r++) x.rule(3, 0, 0, r == rule ? 1 : 0);
        return x;
    }

    /** Of twelve rules of kind 5 this one can't hold: by two decisions that can only have its value, or even without. */
    private static void crowdOfTwelve(int rule) {
        for (int bound = -1; bound <= 1; bound++) {
            NearPlans x = withDecisions(2, 3, 3);
            x.fact(6);
            x.fact(bound);
            for (int r = 0; r < 12; r++) x.rule(5, 0, r == rule || r % 2 == 0 ? 3 : 4, r == rule ? 1 : 0);
            due("21 none holds with all of kind 5", NONE, x.least());
            for (int i = 0; i < 12; i++) due("21 kind 5, rule " + i + " when " + rule + " can't hold", i == rule ? 0 : NONE, x.without(i));
            due("26 kind 5 alone", 1, x.clash(-1));
            due("26 kind 5 alone", rule, x.clash(0));
        }
    }

    // ---- 22 spare

    private static void spare() {
        bounded("22 without a decision", BoundsTest::empty, 0, 3, OUTSIDE, n -> STATE, (x, n) -> x.spare(n));
        bounded("22 without a decision, with a rule", BoundsTest::ruleWithoutDecision, 0, 3, OUTSIDE, n -> STATE, (x, n) -> x.spare(n));
        bounded("22 without a base", BoundsTest::few, 0, 3, OUTSIDE, n -> 0, (x, n) -> x.spare(n));
        bounded("22 none holds", BoundsTest::noneHolds, 0, 3, OUTSIDE, n -> NONE, (x, n) -> x.spare(n));
        for (int person = 0; person < 4; person++) {
            NearPlans x = withDecisions(6, 0, 5);
            x.keep();
            x.pin(person, 5);
            for (int other = 0; other < 4; other++) due("22 the pinned one's person", other == person ? NONE : 1, x.spare(other));
            x.limit(person, 0);
            due("22 the limit was 0 already", NONE, x.spare(person));
            x.limit(person, 1);
            due("22 the limit stays", 1, x.limit(person, 1));
        }
    }

    // ---- 23 why

    private static void why() {
        bounded("23 of none", BoundsTest::empty, 0, -1, UNKNOWN, n -> 0, (x, n) -> x.why(n));
        bounded("23 of six that are not moved", BoundsTest::threePlans, 0, 5, UNKNOWN, n -> STATE, (x, n) -> x.why(n));
        bounded("23 of six that all moved by one fact", BoundsTest::allMoved, 0, 5, UNKNOWN, n -> 0, (x, n) -> x.why(n));
        bounded("23 without a base", () -> sixWith(5, 5, 5, 5, 5, 5), 0, 5, UNKNOWN, n -> STATE, (x, n) -> x.why(n));
        for (int d = 0; d < 6; d++) {
            int decision = d;
            refused("23 not moved", STATE, BoundsTest::threePlans, x -> x.why(decision));
            for (int f = 0; f < 6; f++) due("23 decision " + d + " by fact " + f, f, movedBy(d, f).why(d));
        }
        NearPlans noFact = withDecisions(1, 0, 5);
        noFact.keep();
        noFact.put(0, 1);
        due("23 no fact at all", NONE, noFact.why(0));
        NearPlans same = movedBy(0, 0);
        same.change(0, 0);
        due("23 no fact is another one", NONE, same.why(0));
        NearPlans now = movedBy(0, 0);
        now.rule(3, 1, 1, 0);
        due("23 none holds now", NONE, now.least());
        due("23 with the fact as it was the base holds", 0, now.why(0));
        NearPlans held = movedBy(0, 0);
        held.pin(0, 5);
        due("23 pinned elsewhere, also with the fact as it was", NONE, held.why(0));
        held.pin(0, 0);
        due("23 pinned to the base's value", 0, held.why(0));
        NearPlans never = movedBy(0, 0);
        never.rule(5, 0, 1, 1);
        never.change(1, -1);
        due("23 with the fact as it was none holds", NONE, never.why(0));
        never.change(0, 0);
        due("23 with the other fact as it was the base holds", 1, never.why(0));
        NearPlans least = movedBy(0, 5);
        for (int f = 1; f < 5; f++) least.change(f, 3);
        due("23 only the fact that helps", 5, least.why(0));
        least.rule(2, 1, 1, 2);
        due("23 the other rule's fact does not help", 5, least.why(0));
        least.change(5, 0);
        due("23 no longer needed: the least that changed", 1, least.why(0));
    }

    private static NearPlans allMoved() {
        NearPlans x = withDecisions(6, 0, 5);
        x.fact(0);
        for (int d = 0; d < 6; d++) x.rule(2, d, d, 0);
        x.keep();
        x.change(0, 10);
        x.run();
        return x;
    }

    private static NearPlans movedBy(int decision, int fact) {
        NearPlans x = withDecisions(6, 0, 5);
        for (int f = 0; f < 6; f++) x.fact(0);
        x.rule(2, decision, decision, fact);
        x.keep();
        x.change(fact, 2);
        x.run();
        return x;
    }

    // ---- 24 way

    private static void way() {
        for (int i : numbersAround(0, 5)) {
            due("24 no decision and no base", STATE, empty().way(i));
            due("24 no base, though values are others", STATE, few().way(i));
            due("24 nothing is moved", NONE, threePlans().way(i));
        }
        refused("24 state", STATE, BoundsTest::few, x -> x.way(0));
        bounded("24 one step", () -> moving(1), 0, 0, NONE, n -> 0, (x, n) -> x.way(n));
        bounded("24 five steps", () -> moving(5), 0, 4, NONE, n -> n, (x, n) -> x.way(n));
        bounded("24 six steps", () -> moving(6), 0, 5, NONE, n -> n, (x, n) -> x.way(n));
        for (int d = 0; d < 6; d++) {
            NearPlans x = withDecisions(6, 0, 5);
            x.keep();
            x.put(d, 1);
            due("24 the only step", d, x.way(0));
            due("24 no second step", NONE, x.way(1));
        }
        int[] backwards = {5, 4, 3, 2, 1, 0};
        bounded("24 six steps backwards", BoundsTest::backwards, 0, 5, NONE, n -> backwards[n], (x, n) -> x.way(n));
        bounded("25 six steps backwards", BoundsTest::backwards, 0, 5, NONE, n -> 0, (x, n) -> x.broken(n));
    }

    private static NearPlans moving(int count) {
        NearPlans x = withDecisions(6, 0, 5);
        x.keep();
        for (int d = 0; d < count; d++) x.put(d, 5);
        return x;
    }

    /** None may be above the next one, so that the last must go up first. */
    private static NearPlans backwards() {
        NearPlans x = withDecisions(6, 0, 5);
        x.fact(0);
        for (int d = 0; d < 5; d++) x.rule(0, d, d + 1, 0);
        x.keep();
        for (int d = 0; d < 6; d++) x.put(d, 5);
        return x;
    }

    // ---- 25 broken

    private static void broken() {
        for (int i : numbersAround(0, 5)) {
            due("25 no decision and no base", STATE, empty().broken(i));
            due("25 no base, though values are others", STATE, few().broken(i));
            due("25 nothing is moved", NONE, threePlans().broken(i));
        }
        refused("25 state", STATE, BoundsTest::few, x -> x.broken(0));
        bounded("25 no rules", () -> moving(6), 0, 5, NONE, n -> 0, (x, n) -> x.broken(n));
        bounded("25 one step", () -> moving(1), 0, 0, NONE, n -> 0, (x, n) -> x.broken(n));
        bounded("25 all twelve at each step", BoundsTest::utmost, 0, 5, NONE, n -> 12, (x, n) -> x.broken(n));
        NearPlans crowd = withDecisions(6, 0, 5);
        for (int f = 0; f < 6; f++) crowd.fact(f);
        for (int f = 0; f < 6; f++) crowd.rule(5, 0, 5, f);
        crowd.keep();
        for (int d = 0; d < 6; d++) crowd.put(d, 5);
        for (int i = 0; i < 6; i++) due("25 one more at each step", i + 1, crowd.broken(i));
        due("25 behind the last step as in the plan", crowd.told(4), crowd.broken(5));
    }

    // ---- 26 clash

    private static void clash() {
        for (int i : numbersAround(-1, 11)) {
            due("26 no decision", STATE, empty().clash(i));
            due("26 no decision, but a rule that can't hold", STATE, ruleWithoutDecision().clash(i));
            due("26 some plan holds", NONE, few().clash(i));
            due("26 some plan holds, no rules", NONE, withDecisions(1, 0, 5).clash(i));
        }
        refused("26 state", STATE, BoundsTest::empty, x -> x.clash(-1));
        bounded("26 of no rules: none is allowed", BoundsTest::noneAllowed, -1, -1, NONE, n -> 0, (x, n) -> x.clash(n));
        for (int r = 0; r < 12; r++) {
            int rule = r;
            bounded("26 of one", () -> oneOfTwelve(rule), -1, 0, NONE, n -> n == -1 ? 1 : rule, (x, n) -> x.clash(n));
        }
        bounded("26 of twelve", BoundsTest::allClash, -1, 11, NONE, n -> n == -1 ? 12 : n, (x, n) -> x.clash(n));
        for (int r = 0; r < 12; r++) due("26 without one of twelve some plan holds", 0, allClash().without(r));
        NearPlans free = allClash();
        free.change(1, 2);
        due("26 of twelve none, as a fact changes", NONE, free.clash(-1));
        free.change(1, -1);
        due("26 then one alone can't hold", 1, free.clash(-1));
        due("26 the least of these", 1, free.clash(0));
        bounded("26 the least of twelve that each can't hold", BoundsTest::utmost, -1, 0, NONE, n -> n == -1 ? 1 : 0, (x, n) -> x.clash(n));
        NearPlans limited = utmost();
        limited.pin(0, 1);
        limited.limit(0, 0);
        due("26 of no rules ahead of one", 0, limited.clash(-1));
        due("26 of no rules ahead of one", NONE, limited.clash(0));
        twoOfTwelve();
    }

    /**
     * With the values 0 and 1 each neighbour must be another one, five times, and the last must be as the first: all
     * twelve rules clash, and no eleven.
     */
    private static NearPlans allClash() {
        NearPlans x = withDecisions(6, 0, 1);
        x.fact(0);
        x.fact(1);
        for (int d = 0; d < 5; d++) {
            x.rule(2, d, d + 1, 1);
            x.rule(1, d, d + 1, 1);
        }
        x.rule(0, 0, 5, 0);
        x.rule(0, 5, 0, 0);
        return x;
    }

    /** Each two places of twelve have the two rules that clash. */
    private static void twoOfTwelve() {
        for (int one = 0; one < 12; one++) {
            for (int other = one + 1; other < 12; other++) {
                NearPlans x = withDecisions(2, 0, 5);
                x.fact(-1);
                x.fact(5);
                for (int r = 0; r < 12; r++) {
                    if (r == one) x.rule(0, 0, 1, 0);
                    else if (r == other) x.rule(0, 1, 0, 0);
                    else x.rule(4, 0, 1, 1);
                }
                due("26 two clash", 2, x.clash(-1));
                due("26 the lesser one", one, x.clash(0));
                due("26 the greater one", other, x.clash(1));
                due("26 no third", NONE, x.clash(2));
            }
        }
    }

    // ---- all

    private static void questionsChangeNothing() {
        List<Call> questions = List.of(x -> x.value(0), x -> x.old(0, 0), x -> x.told(0), x -> x.told(6), x -> x.near(3), x -> x.near(2000),
            x -> x.least(), x -> x.without(0), x -> x.without(11), x -> x.spare(0), x -> x.spare(3), x -> x.why(0), x -> x.why(4),
            x -> x.way(0), x -> x.broken(0), x -> x.clash(-1), x -> x.clash(0));
        List<Supplier<NearPlans>> states = new ArrayList<>(states());
        states.addAll(List.of(BoundsTest::noneHolds, BoundsTest::noneAllowed, BoundsTest::allClash, BoundsTest::allMoved));
        for (Supplier<NearPlans> state : states) {
            List<Integer> before = picture(state.get());
            for (int i = 0; i < questions.size(); i++) {
                int answer = questions.get(i).on(state.get());
                answersAndStays("question " + i + " changes nothing", answer, state.get(), questions.get(i), before);
            }
        }
    }
}
