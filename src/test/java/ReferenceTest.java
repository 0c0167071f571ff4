import java.util.ArrayList;
import java.util.Collections;
import java.util.Comparator;
import java.util.List;
import java.util.Random;

/**
 * Random runs of calls (from fixed seeds), each answer compared with that of a slow model that follows the document's
 * words: it lists all plans, all ways and all sets of rules, and takes the first by the document's order.
 */
public final class ReferenceTest {
    private static final int UNKNOWN = -1, OUTSIDE = -2, STATE = -3, ROOM = -4, NONE = -5;
    private static final int LAST_CALL = 512;
    private static int wrong = 0;

    public static void main(String[] args) {
        int runs = args.length > 0 ? Integer.parseInt(args[0]) : 1500;
        for (int seed = 1; seed <= runs && wrong < 10; seed++) {
            Run run = new Run(seed);
            if (seed % 2 == 0) run.goMildly();
            else run.go();
            if (seed % 10 < 2) run.goToTheEnd();
        }
        System.out.println(wrong == 0 ? "all answers are as due" : wrong + " answers are not as due");
        if (wrong != 0) System.exit(1);
    }

    /** One run of calls on a new object and on a new model. */
    private static final class Run {
        final Random random;
        final int seed;
        final NearPlans real = new NearPlans();
        final Model model = new Model();
        final List<String> calls = new ArrayList<>();

        Run(int seed) {
            this.seed = seed;
            this.random = new Random(seed * 7919L);
        }

        void go() {
            boolean large = seed % 50 == 1;
            int decisions = 1 + random.nextInt(6);
            int widest = large ? 5 : decisions > 4 ? 1 : decisions > 3 ? 2 : 5;
            for (int i = 1 + random.nextInt(6); i > 0; i--) call("fact", spread(-1, 7));
            for (int i = 0; i < decisions; i++) {
                int low = random.nextInt(6 - widest);
                call("decision", low, Math.min(5, low + random.nextInt(widest + 1)), random.nextInt(4));
            }
            int length = large ? 60 : 120;
            for (int i = 0; i < length; i++) any();
        }

        /** Rules that mostly hold at first, then small changes: long ways, clashes of several rules, moves with a cause. */
        void goMildly() {
            int decisions = 3 + random.nextInt(4);
            for (int i = 0; i < 6; i++) call("fact", i == 0 ? -1 : spread(-1, 4));
            for (int i = 0; i < decisions; i++) call("decision", random.nextInt(2), spread(2, decisions > 4 ? 3 : 5), random.nextInt(4));
            for (int i = 0; i < decisions; i++) {
                call("weight", i, spread(0, 5), spread(0, 2));
                call("put", i, possible(i));
                if (random.nextInt(2) == 0) call("worth", i, possible(i), spread(1, 4));
            }
            for (int i = spread(4, 24); i > 0; i--) {
                int[] rule = {random.nextInt(3) == 0 ? 0 : spread(0, 5), decision(), decision(), aFact()};
                if (canHold(rule)) call("rule", rule);
            }
            for (int i = 0; i < 3; i++) if (model.least() == NONE) call("change", aFact(), spread(0, 4));
            call("run");
            call("keep");
            for (int i = 0; i < 6; i++) mildRound();
        }

        /** Rules that never hold alone would hide the clashes of several. */
        boolean canHold(int[] rule) {
            if (rule[0] != 5 && !(model.has(model.lows, rule[1]) && model.has(model.lows, rule[2]))) return true;
            if (!model.has(model.facts, rule[3])) return true;
            return !model.holding(model.facts, List.of(rule)).isEmpty();
        }

        void mildRound() {
            for (int i = random.nextInt(2); i >= 0; i--) {
                int f = aFact();
                call("change", f, (model.facts.size() > f && f >= 0 ? model.facts.get(f) : 0) + spread(-1, 1));
            }
            if (random.nextInt(3) == 0) call("first", spread(0, 1));
            if (random.nextInt(3) == 0) call("limit", random.nextInt(4), spread(0, 2));
            if (random.nextInt(6) == 0) call("pin", decision(), possible(0));
            call("run");
            allValues();
            if (random.nextInt(2) == 0) for (int i = 0; i < model.lows.size(); i++) call("put", i, possible(i));
            for (int i = 0; i < model.lows.size(); i++) call("why", i);
            for (int i = 0; i <= 6; i++) { call("way", i); call("broken", i); }
            for (int i = -1; i <= 6; i++) call("clash", i);
            for (int i = 0; i < 8; i++) call("told", i);
            for (int i = 0; i < model.rules.size(); i++) call("without", i);
            for (int i = 0; i < 4; i++) call("spare", i);
            call("near", spread(0, 20));
            if (random.nextInt(4) == 0) { call("undo"); allValues(); }
            if (random.nextInt(4) == 0) call("keep");
            if (random.nextInt(4) == 0) call("base", spread(0, 2));
        }

        /** Up to the last call whose answer is not free. */
        void goToTheEnd() {
            for (int i = 0; i < LAST_CALL && calls.size() < LAST_CALL; i++) any();
        }

        int decision() { return random.nextInt(25) == 0 ? spread(-2, 8) : random.nextInt(Math.max(1, model.lows.size())); }
        int aFact() { return random.nextInt(25) == 0 ? spread(-2, 8) : random.nextInt(Math.max(1, model.facts.size())); }
        int spread(int least, int most) { return least + random.nextInt(most - least + 1); }

        int possible(int decision) {
            if (decision < 0 || decision >= model.lows.size() || random.nextInt(15) == 0) return spread(-1, 6);
            return spread(model.lows.get(decision), model.highs.get(decision));
        }

        void any() {
            int d = decision();
            switch (random.nextInt(36)) {
                case 0: call("decision", spread(-1, 6), spread(-1, 6), spread(-1, 4)); break;
                case 1: call("weight", d, spread(-1, 12), spread(-1, 4)); break;
                case 2: call("weight", d, spread(90, 101), spread(15, 21)); break;
                case 3: case 4: call("worth", d, spread(-1, 6), random.nextInt(20) == 0 ? spread(-1, 101) : spread(0, 6)); break;
                case 5: call("pin", d, random.nextInt(3) == 0 ? possible(d) : NONE); break;
                case 6: call("limit", spread(-1, 4), random.nextInt(3) == 0 ? spread(-1, 7) : spread(1, 6)); break;
                case 7: call("fact", spread(-21, 21)); break;
                case 8: case 9: case 10: case 11: call("change", aFact(), random.nextInt(20) == 0 ? spread(-21, 21) : spread(-1, 8)); break;
                case 12: case 13: case 14: call("rule", random.nextInt(20) == 0 ? spread(-1, 6) : spread(0, 5), d, decision(), aFact()); break;
                case 15: call("first", random.nextInt(10) == 0 ? spread(-1, 2) : spread(0, 1)); break;
                case 16: case 17: case 18: case 19: call("put", d, possible(d)); break;
                case 20: allValues(); break;
                case 21: if (random.nextInt(2) == 0) call("keep"); break;
                case 22: call("base", spread(-1, 3)); break;
                case 23: call("old", spread(-1, 3), d); break;
                case 24: case 25: call("run"); allValues(); break;
                case 26: call("undo"); allValues(); break;
                case 27: case 28: for (int what = -1; what <= 8; what++) call("told", what); break;
                case 29: call("near", random.nextInt(10) == 0 ? spread(-1, 2001) : spread(0, 40)); break;
                case 30: call("least"); break;
                case 31: call("without", random.nextInt(5) == 0 ? spread(-1, 12) : random.nextInt(Math.max(1, model.rules.size()))); break;
                case 32: call("spare", spread(-1, 4)); break;
                case 33: for (int i = 0; i < 6; i++) call("why", i); break;
                case 34: for (int i = -1; i <= 6; i++) { call("way", i); call("broken", i); } break;
                default: for (int i = -2; i <= 6; i++) call("clash", i); break;
            }
        }

        void allValues() { for (int i = 0; i < model.lows.size(); i++) call("value", i); }

        void call(String name, int... a) {
            if (calls.size() >= LAST_CALL) return;
            StringBuilder told = new StringBuilder(name).append('(');
            for (int i = 0; i < a.length; i++) told.append(i == 0 ? "" : ", ").append(a[i]);
            told.append(')');
            int got = ofReal(name, a);
            int want = ofModel(name, a);
            calls.add(told + " = " + want);
            if (got == want) return;
            wrong++;
            if (wrong == 1) for (String call : calls) System.out.println("  " + call);
            System.out.println("seed " + seed + ": " + told + " answered " + got + ", due is " + want);
        }

        int ofReal(String name, int[] a) {
            switch (name) {
                case "decision": return real.decision(a[0], a[1], a[2]);
                case "weight": return real.weight(a[0], a[1], a[2]);
                case "worth": return real.worth(a[0], a[1], a[2]);
                case "pin": return real.pin(a[0], a[1]);
                case "limit": return real.limit(a[0], a[1]);
                case "fact": return real.fact(a[0]);
                case "change": return real.change(a[0], a[1]);
                case "rule": return real.rule(a[0], a[1], a[2], a[3]);
                case "first": return real.first(a[0]);
                case "put": return real.put(a[0], a[1]);
                case "value": return real.value(a[0]);
                case "keep": return real.keep();
                case "base": return real.base(a[0]);
                case "old": return real.old(a[0], a[1]);
                case "run": return real.run();
                case "undo": return real.undo();
                case "told": return real.told(a[0]);
                case "near": return real.near(a[0]);
                case "least": return real.least();
                case "without": return real.without(a[0]);
                case "spare": return real.spare(a[0]);
                case "why": return real.why(a[0]);
                case "way": return real.way(a[0]);
                case "broken": return real.broken(a[0]);
                case "clash": return real.clash(a[0]);
                default: throw new IllegalArgumentException(name);
            }
        }

        int ofModel(String name, int[] a) {
            switch (name) {
                case "decision": return model.decision(a[0], a[1], a[2]);
                case "weight": return model.weight(a[0], a[1], a[2]);
                case "worth": return model.worth(a[0], a[1], a[2]);
                case "pin": return model.pin(a[0], a[1]);
                case "limit": return model.limit(a[0], a[1]);
                case "fact": return model.fact(a[0]);
                case "change": return model.change(a[0], a[1]);
                case "rule": return model.rule(a[0], a[1], a[2], a[3]);
                case "first": return model.first(a[0]);
                case "put": return model.put(a[0], a[1]);
                case "value": return model.value(a[0]);
                case "keep": return model.keep();
                case "base": return model.base(a[0]);
                case "old": return model.old(a[0], a[1]);
                case "run": return model.run();
                case "undo": return model.undo();
                case "told": return model.told(a[0]);
                case "near": return model.near(a[0]);
                case "least": return model.least();
                case "without": return model.without(a[0]);
                case "spare": return model.spare(a[0]);
                case "why": return model.why(a[0]);
                case "way": return model.wayAndBroken(a[0], true);
                case "broken": return model.wayAndBroken(a[0], false);
                case "clash": return model.clash(a[0]);
                default: throw new IllegalArgumentException(name);
            }
        }
    }

    /** The document, word by word. */
    private static final class Model {
        final List<Integer> lows = new ArrayList<>(), highs = new ArrayList<>(), persons = new ArrayList<>();
        final List<int[]> weights = new ArrayList<>(), worths = new ArrayList<>(), rules = new ArrayList<>();
        final List<Integer> pins = new ArrayList<>();
        final List<Integer> plan = new ArrayList<>(), facts = new ArrayList<>();
        final List<List<Integer>> keptPlans = new ArrayList<>(), keptFacts = new ArrayList<>(), past = new ArrayList<>();
        final int[] limits = {6, 6, 6, 6};
        int base = NONE, which = 0;

        static boolean in(int x, int least, int most) { return least <= x && x <= most; }
        boolean has(List<?> things, int i) { return in(i, 0, things.size() - 1); }
        boolean canHave(int d, int v) { return in(v, lows.get(d), highs.get(d)); }

        int decision(int low, int high, int person) {
            if (!in(low, 0, 5) || !in(high, 0, 5) || low > high || !in(person, 0, 3)) return OUTSIDE;
            if (!keptPlans.isEmpty()) return STATE;
            if (lows.size() == 6) return ROOM;
            lows.add(low); highs.add(high); persons.add(person); pins.add(NONE); plan.add(low);
            weights.add(new int[] {1, 0}); worths.add(new int[6]);
            return lows.size() - 1;
        }
        int weight(int d, int weight, int per) {
            if (!has(lows, d)) return UNKNOWN;
            if (!in(weight, 0, 100) || !in(per, 0, 20)) return OUTSIDE;
            weights.set(d, new int[] {weight, per});
            return 1;
        }
        int worth(int d, int v, int worth) {
            if (!has(lows, d)) return UNKNOWN;
            if (!in(v, 0, 5) || !in(worth, 0, 100)) return OUTSIDE;
            int was = worths.get(d)[v];
            worths.get(d)[v] = worth;
            return was;
        }
        int pin(int d, int v) {
            if (!has(lows, d)) return UNKNOWN;
            if (v != NONE && !canHave(d, v)) return OUTSIDE;
            pins.set(d, v);
            return 1;
        }
        int limit(int person, int n) {
            if (!in(person, 0, 3) || !in(n, 0, 6)) return OUTSIDE;
            int was = limits[person];
            limits[person] = n;
            return was;
        }
        int fact(int v) {
            if (!in(v, -20, 20)) return OUTSIDE;
            if (!keptPlans.isEmpty()) return STATE;
            if (facts.size() == 6) return ROOM;
            facts.add(v);
            return facts.size() - 1;
        }
        int change(int f, int v) { return !has(facts, f) ? UNKNOWN : !in(v, -20, 20) ? OUTSIDE : facts.set(f, v); }
        int rule(int kind, int a, int b, int f) {
            if (!in(kind, 0, 5) || kind == 5 && !in(b, 0, 5)) return OUTSIDE;
            if (kind != 5 && !(has(lows, a) && has(lows, b)) || !has(facts, f)) return UNKNOWN;
            if (rules.size() == 12) return ROOM;
            rules.add(new int[] {kind, a, b, f});
            return rules.size() - 1;
        }
        int first(int w) {
            if (!in(w, 0, 1)) return OUTSIDE;
            int was = which;
            which = w;
            return was;
        }
        int put(int d, int v) { return !has(lows, d) ? UNKNOWN : !canHave(d, v) ? OUTSIDE : plan.set(d, v); }
        int value(int d) { return has(lows, d) ? plan.get(d) : UNKNOWN; }
        int keep() {
            if (lows.isEmpty()) return STATE;
            if (keptPlans.size() == 3) return ROOM;
            keptPlans.add(new ArrayList<>(plan));
            keptFacts.add(new ArrayList<>(facts));
            return base = keptPlans.size() - 1;
        }
        int base(int kept) {
            if (!has(keptPlans, kept)) return UNKNOWN;
            int was = base;
            base = kept;
            return was;
        }
        int old(int kept, int d) { return has(keptPlans, kept) && has(lows, d) ? keptPlans.get(kept).get(d) : UNKNOWN; }
        int run() {
            if (lows.isEmpty()) return STATE;
            List<Integer> best = best(holding(facts, rules));
            if (best == null) return NONE;
            past.add(new ArrayList<>(plan));
            if (past.size() > 8) past.remove(0);
            for (int d = 0; d < plan.size(); d++) plan.set(d, best.get(d));
            return cost(best);
        }
        int undo() {
            if (past.isEmpty()) return STATE;
            List<Integer> was = past.remove(past.size() - 1);
            for (int d = 0; d < was.size(); d++) plan.set(d, was.get(d));
            return past.size();
        }
        int told(int what) {
            int bits = 0, moves = 0;
            for (int r = 0; r < rules.size(); r++) if (!holds(rules.get(r), plan, facts)) bits |= 1 << r;
            for (int d = 0; d < plan.size(); d++) if (moved(d, plan)) moves |= 1 << d;
            int[] all = {cost(plan), worth(plan), Integer.bitCount(moves), moves, Integer.bitCount(bits), bits,
                allowed(plan) ? 1 : 0, base};
            return in(what, 0, 7) ? all[what] : OUTSIDE;
        }
        int near(int n) {
            if (!in(n, 0, 2000)) return OUTSIDE;
            if (lows.isEmpty()) return STATE;
            int count = 0;
            for (List<Integer> p : holding(facts, rules)) if (cost(p) <= n) count++;
            return count;
        }
        int leastOf(List<List<Integer>> plans) {
            int least = NONE;
            for (List<Integer> p : plans) if (least == NONE || cost(p) < least) least = cost(p);
            return least;
        }
        int least() { return lows.isEmpty() ? STATE : leastOf(holding(facts, rules)); }
        int without(int r) {
            if (!has(rules, r)) return UNKNOWN;
            if (lows.isEmpty()) return STATE;
            List<int[]> others = new ArrayList<>(rules);
            others.remove(r);
            return leastOf(holding(facts, others));
        }
        int spare(int person) {
            if (!in(person, 0, 3)) return OUTSIDE;
            if (lows.isEmpty()) return STATE;
            int was = limits[person];
            limits[person] = 0;
            int least = leastOf(holding(facts, rules));
            limits[person] = was;
            return least;
        }
        int why(int d) {
            if (!has(lows, d)) return UNKNOWN;
            if (!moved(d, plan)) return STATE;
            for (int f = 0; f < facts.size(); f++) {
                List<Integer> others = new ArrayList<>(facts);
                others.set(f, keptFacts.get(base).get(f));
                if (others.equals(facts)) continue;
                List<Integer> best = best(holding(others, rules));
                if (best != null && best.get(d).equals(keptPlans.get(base).get(d))) return f;
            }
            return NONE;
        }
        int wayAndBroken(int i, boolean decisions) {
            if (base == NONE) return STATE;
            List<List<Integer>> ways = new ArrayList<>();
            addWays(new ArrayList<>(), ways);
            List<Integer> bestWay = null, bestBroken = null;
            for (List<Integer> w : ways) {
                List<Integer> broken = brokenOn(w);
                if (bestWay == null || before(broken, bestBroken)) {
                    bestWay = w;
                    bestBroken = broken;
                }
            }
            if (!has(bestWay, i)) return NONE;
            return decisions ? bestWay.get(i) : bestBroken.get(i);
        }
        /** Ways come in rising order, so that only what comes first counts. */
        static boolean before(List<Integer> broken, List<Integer> other) {
            if (broken.isEmpty()) return false;
            int most = Collections.max(broken), otherMost = Collections.max(other), sum = 0;
            for (int i = 0; i < broken.size(); i++) sum += broken.get(i) - other.get(i);
            return most != otherMost ? most < otherMost : sum < 0;
        }
        void addWays(List<Integer> begun, List<List<Integer>> ways) {
            boolean whole = true;
            for (int d = 0; d < plan.size(); d++) {
                if (!moved(d, plan) || begun.contains(d)) continue;
                whole = false;
                begun.add(d);
                addWays(begun, ways);
                begun.remove(begun.size() - 1);
            }
            if (whole) ways.add(new ArrayList<>(begun));
        }
        List<Integer> brokenOn(List<Integer> w) {
            List<Integer> at = new ArrayList<>(keptPlans.get(base)), broken = new ArrayList<>();
            for (int d : w) {
                at.set(d, plan.get(d));
                int count = 0;
                for (int[] r : rules) if (!holds(r, at, facts)) count++;
                broken.add(count);
            }
            return broken;
        }
        int clash(int i) {
            if (lows.isEmpty()) return STATE;
            if (!holding(facts, rules).isEmpty()) return NONE;
            List<List<Integer>> plans = holding(facts, new ArrayList<>());
            for (int size = 0; size <= rules.size(); size++) {
                List<Integer> found = clashOf(size, 0, new ArrayList<>(), plans);
                if (found != null) return i == -1 ? found.size() : has(found, i) ? found.get(i) : NONE;
            }
            throw new IllegalStateException("all rules must clash");
        }
        List<Integer> clashOf(int size, int from, List<Integer> begun, List<List<Integer>> plans) {
            if (size == 0) {
                for (List<Integer> p : plans) {
                    boolean keepsAll = true;
                    for (int r : begun) keepsAll &= holds(rules.get(r), p, facts);
                    if (keepsAll) return null;
                }
                return begun;
            }
            for (int r = from; r + size <= rules.size(); r++) {
                List<Integer> more = new ArrayList<>(begun);
                more.add(r);
                List<Integer> found = clashOf(size - 1, r + 1, more, plans);
                if (found != null) return found;
            }
            return null;
        }

        boolean moved(int d, List<Integer> p) { return base != NONE && !keptPlans.get(base).get(d).equals(p.get(d)); }
        int cost(List<Integer> p) {
            int cost = 0;
            for (int d = 0; d < p.size(); d++) {
                if (moved(d, p)) cost += weights.get(d)[0] + weights.get(d)[1] * Math.abs(p.get(d) - keptPlans.get(base).get(d));
            }
            return cost;
        }
        int worth(List<Integer> p) {
            int worth = 0;
            for (int d = 0; d < p.size(); d++) worth += worths.get(d)[p.get(d)];
            return worth;
        }
        boolean allowed(List<Integer> p) {
            int[] moves = new int[4];
            for (int d = 0; d < p.size(); d++) {
                if (!canHave(d, p.get(d)) || pins.get(d) != NONE && !pins.get(d).equals(p.get(d))) return false;
                if (moved(d, p) && ++moves[persons.get(d)] > limits[persons.get(d)]) return false;
            }
            return true;
        }
        boolean holds(int[] r, List<Integer> p, List<Integer> f) {
            int bound = f.get(r[3]);
            if (r[0] == 5) return Collections.frequency(p, r[2]) <= bound;
            int x = p.get(r[1]), y = p.get(r[2]);
            switch (r[0]) {
                case 0: return x - y <= bound;
                case 1: return x + y <= bound;
                case 2: return x + y >= bound;
                case 3: return Math.abs(x - y) >= bound;
                case 4: return Math.abs(x - y) <= bound;
                default: throw new IllegalStateException();
            }
        }
        List<List<Integer>> holding(List<Integer> f, List<int[]> someRules) {
            List<List<Integer>> plans = new ArrayList<>();
            addHolding(new ArrayList<>(), f, someRules, plans);
            return plans;
        }
        void addHolding(List<Integer> begun, List<Integer> f, List<int[]> someRules, List<List<Integer>> plans) {
            if (begun.size() == lows.size()) {
                if (!allowed(begun)) return;
                for (int[] r : someRules) if (!holds(r, begun, f)) return;
                plans.add(new ArrayList<>(begun));
                return;
            }
            for (int v = 0; v <= 5; v++) {
                if (!canHave(begun.size(), v)) continue;
                begun.add(v);
                addHolding(begun, f, someRules, plans);
                begun.remove(begun.size() - 1);
            }
        }
        List<Integer> best(List<List<Integer>> plans) {
            Comparator<List<Integer>> byCost = Comparator.comparingInt(this::cost);
            Comparator<List<Integer>> byWorth = Comparator.comparingInt(p -> -worth(p));
            Comparator<List<Integer>> order = which == 0 ? byCost.thenComparing(byWorth) : byWorth.thenComparing(byCost);
            return plans.isEmpty() ? null : Collections.min(plans, order.thenComparing(Model::byValues));
        }
        static int byValues(List<Integer> p, List<Integer> q) {
            for (int d = 0; d < p.size(); d++) if (!p.get(d).equals(q.get(d))) return p.get(d) - q.get(d);
            return 0;
        }
    }
}
