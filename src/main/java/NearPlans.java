/**
 * Plans near an old one: decisions whose values keep hard rules about facts. README.md says how it is used, the
 * document what each call answers.
 *
 * <p>Every row is made with the object and used again by each call, so that a long run of calls needs no more room
 * than a short one.
 */
public final class NearPlans {
    public static final int UNKNOWN = -1, OUTSIDE = -2, STATE = -3, ROOM = -4, NONE = -5;

    private static final int MOST_DECISIONS = 6;
    private static final int MOST_FACTS = 6;
    private static final int MOST_RULES = 12;
    private static final int MOST_KEPT = 3;
    private static final int MOST_UNDONE = 8;
    private static final int PERSONS = 4;
    private static final int VALUES = 6;
    private static final int MOST_WEIGHT = 100;
    private static final int MOST_PER = 20;
    private static final int MOST_WORTH = 100;
    private static final int MOST_LIMIT = 6;
    private static final int FARTHEST_FACT = 20;
    private static final int MOST_COST = 2000;
    private static final int CROWD = 5;
    private static final int ALL_RULES = (1 << MOST_RULES) - 1;

    private final Situation now;
    private final Past past;
    private final BestSearch bestSearch;
    private final NearSearch nearSearch;
    private final ClashSearch clashSearch;
    private final Route route;
    private final int[] trialFacts;

    public NearPlans() {
        now = new Situation();
        past = new Past();
        bestSearch = new BestSearch(now);
        nearSearch = new NearSearch(now);
        clashSearch = new ClashSearch(now);
        route = new Route(now);
        trialFacts = new int[MOST_FACTS];
    }

    // ---- what there is

    public int decision(int low, int high, int person) {
        if (!isValue(low) || !isValue(high) || low > high || !isPerson(person)) {
            return OUTSIDE;
        }
        if (now.keptCount > 0) {
            return STATE;
        }
        if (now.decisions.count >= MOST_DECISIONS) {
            return ROOM;
        }
        int number = now.decisions.add(low, high, person);
        now.plan[number] = low;
        return number;
    }

    public int weight(int decision, int weight, int per) {
        if (!now.decisions.knows(decision)) {
            return UNKNOWN;
        }
        if (!isWithin(weight, 0, MOST_WEIGHT) || !isWithin(per, 0, MOST_PER)) {
            return OUTSIDE;
        }
        now.decisions.weights[decision] = weight;
        now.decisions.pers[decision] = per;
        return 1;
    }

    public int worth(int decision, int value, int worth) {
        if (!now.decisions.knows(decision)) {
            return UNKNOWN;
        }
        if (!isValue(value) || !isWithin(worth, 0, MOST_WORTH)) {
            return OUTSIDE;
        }
        int was = now.decisions.worths[decision][value];
        now.decisions.worths[decision][value] = worth;
        return was;
    }

    public int pin(int decision, int value) {
        if (!now.decisions.knows(decision)) {
            return UNKNOWN;
        }
        if (value != NONE && !now.decisions.canHave(decision, value)) {
            return OUTSIDE;
        }
        now.decisions.pins[decision] = value;
        return 1;
    }

    public int limit(int person, int n) {
        if (!isPerson(person) || !isWithin(n, 0, MOST_LIMIT)) {
            return OUTSIDE;
        }
        int was = now.limits[person];
        now.limits[person] = n;
        return was;
    }

    public int fact(int v) {
        if (!isFactsValue(v)) {
            return OUTSIDE;
        }
        if (now.keptCount > 0) {
            return STATE;
        }
        if (now.factCount >= MOST_FACTS) {
            return ROOM;
        }
        int number = now.factCount;
        now.facts[number] = v;
        now.factCount = number + 1;
        return number;
    }

    public int change(int fact, int v) {
        if (!now.knowsFact(fact)) {
            return UNKNOWN;
        }
        if (!isFactsValue(v)) {
            return OUTSIDE;
        }
        int was = now.facts[fact];
        now.facts[fact] = v;
        return was;
    }

    public int rule(int kind, int a, int b, int fact) {
        if (!isWithin(kind, 0, CROWD) || (kind == CROWD && !isValue(b))) {
            return OUTSIDE;
        }
        if (kind != CROWD && (!now.decisions.knows(a) || !now.decisions.knows(b))) {
            return UNKNOWN;
        }
        if (!now.knowsFact(fact)) {
            return UNKNOWN;
        }
        if (now.rules.count >= MOST_RULES) {
            return ROOM;
        }
        return kind == CROWD ? now.rules.addCrowd(b, fact) : now.rules.addPair(kind, a, b, fact);
    }

    public int first(int which) {
        if (which != 0 && which != 1) {
            return OUTSIDE;
        }
        int was = now.worthFirst ? 1 : 0;
        now.worthFirst = which == 1;
        return was;
    }

    // ---- plans

    public int put(int decision, int value) {
        if (!now.decisions.knows(decision)) {
            return UNKNOWN;
        }
        if (!now.decisions.canHave(decision, value)) {
            return OUTSIDE;
        }
        int was = now.plan[decision];
        now.plan[decision] = value;
        return was;
    }

    public int value(int decision) {
        return now.decisions.knows(decision) ? now.plan[decision] : UNKNOWN;
    }

    public int keep() {
        if (now.decisions.count == 0) {
            return STATE;
        }
        if (now.keptCount >= MOST_KEPT) {
            return ROOM;
        }
        return now.keepPlan();
    }

    public int base(int kept) {
        if (!now.knowsKept(kept)) {
            return UNKNOWN;
        }
        int was = now.base;
        now.base = kept;
        return was;
    }

    public int old(int kept, int decision) {
        if (!now.knowsKept(kept) || !now.decisions.knows(decision)) {
            return UNKNOWN;
        }
        return now.keptValues[kept][decision];
    }

    public int run() {
        if (now.decisions.count == 0) {
            return STATE;
        }
        if (!bestSearch.find(now.worthFirst, ALL_RULES, now.facts, NONE)) {
            return NONE;
        }
        past.remember(now.plan, now.decisions.count);
        copyRow(bestSearch.best, now.plan, now.decisions.count);
        return bestSearch.bestCost;
    }

    public int undo() {
        if (past.count == 0) {
            return STATE;
        }
        past.bringBack(now.plan);
        return past.count;
    }

    public int told(int what) {
        switch (what) {
            case 0: return now.costOf(now.plan);
            case 1: return now.worthOf(now.plan);
            case 2: return Integer.bitCount(now.movedBits(now.plan));
            case 3: return now.movedBits(now.plan);
            case 4: return Integer.bitCount(now.brokenBits(now.plan));
            case 5: return now.brokenBits(now.plan);
            case 6: return now.isAllowed(now.plan) ? 1 : 0;
            case 7: return now.base;
            default: return OUTSIDE;
        }
    }

    // ---- what it costs

    public int near(int n) {
        if (!isWithin(n, 0, MOST_COST)) {
            return OUTSIDE;
        }
        return now.decisions.count == 0 ? STATE : nearSearch.countUpTo(n);
    }

    public int least() {
        return now.decisions.count == 0 ? STATE : leastCost(ALL_RULES, NONE);
    }

    public int without(int rule) {
        if (rule < 0 || rule >= now.rules.count) {
            return UNKNOWN;
        }
        return now.decisions.count == 0 ? STATE : leastCost(ALL_RULES & ~(1 << rule), NONE);
    }

    public int spare(int person) {
        if (!isPerson(person)) {
            return OUTSIDE;
        }
        return now.decisions.count == 0 ? STATE : leastCost(ALL_RULES, person);
    }

    public int why(int decision) {
        if (!now.decisions.knows(decision)) {
            return UNKNOWN;
        }
        if (!now.isMoved(decision, now.plan[decision])) {
            return STATE;
        }
        for (int fact = 0; fact < now.factCount; fact++) {
            if (now.hasChanged(fact) && wouldStay(decision, fact)) {
                return fact;
            }
        }
        return NONE;
    }

    // ---- the way, the clash

    public int way(int i) {
        if (!now.hasBase()) {
            return STATE;
        }
        route.lay();
        return isWithin(i, 0, route.length - 1) ? route.steps[i] : NONE;
    }

    public int broken(int i) {
        if (!now.hasBase()) {
            return STATE;
        }
        route.lay();
        return isWithin(i, 0, route.length - 1) ? route.brokenSteps[i] : NONE;
    }

    public int clash(int i) {
        if (now.decisions.count == 0) {
            return STATE;
        }
        int rules = clashSearch.findClash();
        if (rules == NONE) {
            return NONE;
        }
        return i == -1 ? Integer.bitCount(rules) : bitAtPlace(rules, i);
    }

    // ---- helpers

    /** The least cost of a plan that keeps these rules (bits), if a person (or NONE) must not be moved. */
    private int leastCost(int rules, int spared) {
        return bestSearch.find(false, rules, now.facts, spared) ? bestSearch.bestCost : NONE;
    }

    /** Whether the decision would have its value of the base, if the fact were what it was when that was kept. */
    private boolean wouldStay(int decision, int fact) {
        copyRow(now.facts, trialFacts, now.factCount);
        trialFacts[fact] = now.keptFacts[now.base][fact];
        return bestSearch.find(now.worthFirst, ALL_RULES, trialFacts, NONE)
            && !now.isMoved(decision, bestSearch.best[decision]);
    }

    private static boolean isWithin(int number, int least, int most) {
        return number >= least && number <= most;
    }

    private static boolean isValue(int value) {
        return isWithin(value, 0, VALUES - 1);
    }

    private static boolean isPerson(int person) {
        return isWithin(person, 0, PERSONS - 1);
    }

    private static boolean isFactsValue(int v) {
        return isWithin(v, -FARTHEST_FACT, FARTHEST_FACT);
    }

    private static int bitAtPlace(int bits, int place) {
        int passed = 0;
        for (int bit = 0; bit < MOST_RULES; bit++) {
            if ((bits >> bit & 1) == 1) {
                if (passed == place) {
                    return bit;
                }
                passed++;
            }
        }
        return NONE;
    }

    private static void copyRow(int[] from, int[] to, int count) {
        for (int i = 0; i < count && i < from.length && i < to.length; i++) {
            to[i] = from[i];
        }
    }

    // ---- classes

    private static final class Decisions {
        int count;
        final int[] lows = new int[MOST_DECISIONS];
        final int[] highs = new int[MOST_DECISIONS];
        final int[] persons = new int[MOST_DECISIONS];
        final int[] weights = new int[MOST_DECISIONS];
        final int[] pers = new int[MOST_DECISIONS];
        final int[] pins = new int[MOST_DECISIONS];
        final int[][] worths = new int[MOST_DECISIONS][VALUES];

        boolean knows(int decision) {
            return decision >= 0 && decision < count;
        }

        /** Only called while there is room. */
        int add(int low, int high, int person) {
            int number = count;
            lows[number] = low;
            highs[number] = high;
            persons[number] = person;
            weights[number] = 1;
            pins[number] = NONE;
            count = number + 1;
            return number;
        }

        boolean canHave(int decision, int value) {
            return value >= lows[decision] && value <= highs[decision];
        }

        boolean mayTake(int decision, int value) {
            return canHave(decision, value) && (pins[decision] == NONE || pins[decision] == value);
        }

        int mostWorth(int decision) {
            int most = 0;
            for (int value = 0; value < VALUES; value++) {
                if (mayTake(decision, value)) {
                    most = Math.max(most, worths[decision][value]);
                }
            }
            return most;
        }
    }

    /**
     * The rules, and which of them can be judged when: one about two decisions as soon as the later one has its
     * value, one about a value (kind 5) whenever a decision takes that value.
     */
    private static final class Rules {
        int count;
        final int[] kinds = new int[MOST_RULES];
        final int[] as = new int[MOST_RULES];
        final int[] bs = new int[MOST_RULES];
        final int[] factsOf = new int[MOST_RULES];
        final int[][] pairsByLater = new int[MOST_DECISIONS][MOST_RULES];
        final int[] pairCounts = new int[MOST_DECISIONS];
        final int[][] crowdsByValue = new int[VALUES][MOST_RULES];
        final int[] crowdCounts = new int[VALUES];

        /** Only called while there is room, and with what is known. */
        int addPair(int kind, int a, int b, int fact) {
            int later = Math.max(a, b);
            pairsByLater[later][pairCounts[later]] = count;
            pairCounts[later]++;
            return addRow(kind, a, b, fact);
        }

        /** Only called while there is room, and with what is known. */
        int addCrowd(int value, int fact) {
            crowdsByValue[value][crowdCounts[value]] = count;
            crowdCounts[value]++;
            return addRow(CROWD, 0, value, fact);
        }

        private int addRow(int kind, int a, int b, int fact) {
            int number = count;
            kinds[number] = kind;
            as[number] = a;
            bs[number] = b;
            factsOf[number] = fact;
            count = number + 1;
            return number;
        }

        boolean pairHolds(int number, int[] plan, int[] facts) {
            int x = plan[as[number]];
            int y = plan[bs[number]];
            int bound = facts[factsOf[number]];
            switch (kinds[number]) {
                case 0: return x - y <= bound;
                case 1: return x + y <= bound;
                case 2: return x + y >= bound;
                case 3: return Math.abs(x - y) >= bound;
                default: return Math.abs(x - y) <= bound;
            }
        }

        boolean crowdHolds(int number, int decisions, int[] facts) {
            return decisions <= facts[factsOf[number]];
        }

        boolean holds(int number, int[] plan, int planSize, int[] facts) {
            if (kinds[number] != CROWD) {
                return pairHolds(number, plan, facts);
            }
            int decisions = 0;
            for (int decision = 0; decision < planSize; decision++) {
                if (plan[decision] == bs[number]) {
                    decisions++;
                }
            }
            return crowdHolds(number, decisions, facts);
        }

        /** The rules, as bits, that do not hold even while no decision has a value. */
        int brokenAtStart(int[] facts) {
            int broken = 0;
            for (int number = 0; number < count; number++) {
                if (kinds[number] == CROWD && !crowdHolds(number, 0, facts)) {
                    broken |= 1 << number;
                }
            }
            return broken;
        }
    }

    /** All that the calls have told, and THE PLAN. */
    private static final class Situation {
        final Decisions decisions = new Decisions();
        final Rules rules = new Rules();
        final int[] facts = new int[MOST_FACTS];
        int factCount;
        final int[] limits = new int[PERSONS];
        final int[] plan = new int[MOST_DECISIONS];
        final int[][] keptValues = new int[MOST_KEPT][MOST_DECISIONS];
        final int[][] keptFacts = new int[MOST_KEPT][MOST_FACTS];
        int keptCount;
        int base = NONE;
        boolean worthFirst;
        final int[] movedOfPersons = new int[PERSONS];

        Situation() {
            for (int person = 0; person < PERSONS; person++) {
                limits[person] = MOST_LIMIT;
            }
        }

        boolean knowsFact(int number) {
            return number >= 0 && number < factCount;
        }

        boolean knowsKept(int number) {
            return number >= 0 && number < keptCount;
        }

        boolean hasBase() {
            return base >= 0 && base < keptCount;
        }

        /** Only called while there is room. */
        int keepPlan() {
            int number = keptCount;
            copyRow(plan, keptValues[number], decisions.count);
            copyRow(facts, keptFacts[number], factCount);
            keptCount = number + 1;
            base = number;
            return number;
        }

        boolean isMoved(int decision, int value) {
            return hasBase() && keptValues[base][decision] != value;
        }

        boolean hasChanged(int fact) {
            return hasBase() && keptFacts[base][fact] != facts[fact];
        }

        int priceOf(int decision, int value) {
            if (!isMoved(decision, value)) {
                return 0;
            }
            int apart = Math.abs(value - keptValues[base][decision]);
            return decisions.weights[decision] + decisions.pers[decision] * apart;
        }

        int costOf(int[] values) {
            int cost = 0;
            for (int decision = 0; decision < decisions.count; decision++) {
                cost += priceOf(decision, values[decision]);
            }
            return cost;
        }

        int worthOf(int[] values) {
            int worth = 0;
            for (int decision = 0; decision < decisions.count; decision++) {
                worth += decisions.worths[decision][values[decision]];
            }
            return worth;
        }

        int movedBits(int[] values) {
            int moved = 0;
            for (int decision = 0; decision < decisions.count; decision++) {
                if (isMoved(decision, values[decision])) {
                    moved |= 1 << decision;
                }
            }
            return moved;
        }

        int brokenBits(int[] values) {
            int broken = 0;
            for (int number = 0; number < rules.count; number++) {
                if (!rules.holds(number, values, decisions.count, facts)) {
                    broken |= 1 << number;
                }
            }
            return broken;
        }

        boolean isAllowed(int[] values) {
            for (int person = 0; person < PERSONS; person++) {
                movedOfPersons[person] = 0;
            }
            for (int decision = 0; decision < decisions.count; decision++) {
                if (!decisions.mayTake(decision, values[decision])) {
                    return false;
                }
                if (isMoved(decision, values[decision])) {
                    movedOfPersons[decisions.persons[decision]]++;
                }
            }
            for (int person = 0; person < PERSONS; person++) {
                if (movedOfPersons[person] > limits[person]) {
                    return false;
                }
            }
            return true;
        }
    }

    /** The plans that runs replaced, the latest last; the oldest is forgotten when there is no room. */
    private static final class Past {
        int count;
        final int[][] plans = new int[MOST_UNDONE][MOST_DECISIONS];
        final int[] sizes = new int[MOST_UNDONE];

        void remember(int[] plan, int size) {
            if (count >= MOST_UNDONE) {
                forgetOldest();
            }
            copyRow(plan, plans[count], size);
            sizes[count] = size;
            count++;
        }

        private void forgetOldest() {
            for (int i = 1; i < MOST_UNDONE; i++) {
                copyRow(plans[i], plans[i - 1], MOST_DECISIONS);
                sizes[i - 1] = sizes[i];
            }
            count = MOST_UNDONE - 1;
        }

        /** Only called while there is one. Decisions that came later keep what they have. */
        void bringBack(int[] plan) {
            count--;
            copyRow(plans[count], plan, sizes[count]);
        }
    }

    /** Goes through the allowed plans in the order of their values, leaving out what is hopeless. */
    private abstract static class Search {
        final Situation now;
        final int[] values = new int[MOST_DECISIONS];
        final int[] movesLeft = new int[PERSONS];
        final int[] crowds = new int[VALUES];
        int[] facts;

        Search(Situation now) {
            this.now = now;
            this.facts = now.facts;
        }

        /** Whether no plan is wanted that goes on from here, where so many decisions have their values. */
        abstract boolean isHopeless(int decided, int cost, int worth, int broken);

        abstract void reach(int cost, int worth, int broken);

        /** Spared is a person who must not be moved at all, or NONE. */
        void search(int[] factsInForce, int spared) {
            facts = factsInForce;
            for (int person = 0; person < PERSONS; person++) {
                movesLeft[person] = person == spared ? 0 : now.limits[person];
            }
            decide(0, 0, 0, now.rules.brokenAtStart(facts));
        }

        private void decide(int decision, int cost, int worth, int broken) {
            if (decision >= now.decisions.count) {
                reach(cost, worth, broken);
                return;
            }
            int person = now.decisions.persons[decision];
            for (int value = 0; value < VALUES; value++) {
                int moves = now.isMoved(decision, value) ? 1 : 0;
                if (!now.decisions.mayTake(decision, value) || moves > movesLeft[person]) {
                    continue;
                }
                values[decision] = value;
                movesLeft[person] -= moves;
                crowds[value]++;
                int costNow = cost + now.priceOf(decision, value);
                int worthNow = worth + now.decisions.worths[decision][value];
                int brokenNow = broken | brokenBy(decision, value);
                if (!isHopeless(decision + 1, costNow, worthNow, brokenNow)) {
                    decide(decision + 1, costNow, worthNow, brokenNow);
                }
                crowds[value]--;
                movesLeft[person] += moves;
            }
        }

        /** The rules that a decision breaks by its value; a crowd only grows, so what it breaks stays broken. */
        private int brokenBy(int decision, int value) {
            Rules rules = now.rules;
            int broken = 0;
            for (int i = 0; i < rules.pairCounts[decision]; i++) {
                int number = rules.pairsByLater[decision][i];
                if (!rules.pairHolds(number, values, facts)) {
                    broken |= 1 << number;
                }
            }
            for (int i = 0; i < rules.crowdCounts[value]; i++) {
                int number = rules.crowdsByValue[value][i];
                if (!rules.crowdHolds(number, crowds[value], facts)) {
                    broken |= 1 << number;
                }
            }
            return broken;
        }
    }

    /** Finds the best plan that keeps the wanted rules. */
    private static final class BestSearch extends Search {
        final int[] best = new int[MOST_DECISIONS];
        int bestCost;
        private int bestWorth;
        private boolean found;
        private boolean worthFirst;
        private int wantedRules;
        private final int[] worthAhead = new int[MOST_DECISIONS + 1];

        BestSearch(Situation now) {
            super(now);
        }

        /** Rules are bits: those that the plan must keep. Spared is a person or NONE. */
        boolean find(boolean byWorthFirst, int rules, int[] factsInForce, int spared) {
            found = false;
            worthFirst = byWorthFirst;
            wantedRules = rules;
            worthAhead[now.decisions.count] = 0;
            for (int decision = now.decisions.count - 1; decision >= 0; decision--) {
                worthAhead[decision] = worthAhead[decision + 1] + now.decisions.mostWorth(decision);
            }
            search(factsInForce, spared);
            return found;
        }

        boolean isHopeless(int decided, int cost, int worth, int broken) {
            return (broken & wantedRules) != 0 || !isBetter(cost, worth + worthAhead[decided]);
        }

        /** Plans come by rising values, so that of equals the first one stays. */
        private boolean isBetter(int cost, int worth) {
            if (!found) {
                return true;
            }
            if (worthFirst) {
                return worth > bestWorth || (worth == bestWorth && cost < bestCost);
            }
            return cost < bestCost || (cost == bestCost && worth > bestWorth);
        }

        void reach(int cost, int worth, int broken) {
            found = true;
            bestCost = cost;
            bestWorth = worth;
            copyRow(values, best, now.decisions.count);
        }
    }

    /** Counts the plans that hold up to a cost. */
    private static final class NearSearch extends Search {
        private int mostCost;
        private int plans;

        NearSearch(Situation now) {
            super(now);
        }

        int countUpTo(int cost) {
            mostCost = cost;
            plans = 0;
            search(now.facts, NONE);
            return plans;
        }

        boolean isHopeless(int decided, int cost, int worth, int broken) {
            return broken != 0 || cost > mostCost;
        }

        void reach(int cost, int worth, int broken) {
            plans++;
        }
    }

    /** Finds the fewest rules that no allowed plan keeps together; sets of rules are bits. */
    private static final class ClashSearch extends Search {
        /** At a set of rules: whether some allowed plan breaks none but these. */
        private final boolean[] enough = new boolean[1 << MOST_RULES];

        ClashSearch(Situation now) {
            super(now);
        }

        int findClash() {
            int all = (1 << now.rules.count) - 1;
            for (int set = 0; set <= all; set++) {
                enough[set] = false;
            }
            search(now.facts, NONE);
            if (enough[0]) {
                return NONE;
            }
            spreadToLarger(all);
            int least = all;
            for (int set = 0; set < all; set++) {
                if (!enough[all & ~set] && isBefore(set, least)) {
                    least = set;
                }
            }
            return least;
        }

        /** Going on can only break more rules; a plan that breaks fewer, or none at all, makes that needless. */
        boolean isHopeless(int decided, int cost, int worth, int broken) {
            return enough[0] || enough[broken];
        }

        void reach(int cost, int worth, int broken) {
            enough[broken] = true;
        }

        private void spreadToLarger(int all) {
            for (int number = 0; number < now.rules.count; number++) {
                int bit = 1 << number;
                for (int set = 0; set <= all; set++) {
                    if ((set & bit) != 0 && enough[set & ~bit]) {
                        enough[set] = true;
                    }
                }
            }
        }

        private static boolean isBefore(int set, int other) {
            int size = Integer.bitCount(set);
            int otherSize = Integer.bitCount(other);
            if (size != otherSize) {
                return size < otherSize;
            }
            int differing = set ^ other;
            int leastDiffering = differing & -differing;
            return (set & leastDiffering) != 0;
        }
    }

    /** THE WAY from the base to the plan; a set of decisions that have moved already is bits. */
    private static final class Route {
        private static final int SETS = 1 << MOST_DECISIONS;
        private static final int NO_WAY = 1000000;

        int length;
        final int[] steps = new int[MOST_DECISIONS];
        final int[] brokenSteps = new int[MOST_DECISIONS];
        private final Situation now;
        private final int[] mixed = new int[MOST_DECISIONS];
        private final int[] brokenAt = new int[SETS];
        private final int[] leastPeaks = new int[SETS];
        private final int[] leastRests = new int[SETS];
        private int moved;
        private int peak;

        Route(Situation now) {
            this.now = now;
        }

        /** The least peak must be known before the sums are, as only ways that stay below it may be summed. */
        void lay() {
            length = 0;
            if (!now.hasBase()) {
                return;
            }
            moved = now.movedBits(now.plan);
            for (int set = 0; set < SETS; set++) {
                if (isPart(set)) {
                    brokenAt[set] = countBroken(set);
                    leastPeaks[set] = leastPeakTo(set);
                }
            }
            peak = leastPeaks[moved];
            for (int set = SETS - 1; set >= 0; set--) {
                if (isPart(set)) {
                    leastRests[set] = leastRestFrom(set);
                }
            }
            follow();
        }

        private boolean isPart(int set) {
            return (set & ~moved) == 0;
        }

        private int countBroken(int set) {
            for (int decision = 0; decision < now.decisions.count; decision++) {
                boolean hasMoved = (set >> decision & 1) == 1;
                mixed[decision] = hasMoved ? now.plan[decision] : now.keptValues[now.base][decision];
            }
            return Integer.bitCount(now.brokenBits(mixed));
        }

        private int leastPeakTo(int set) {
            if (set == 0) {
                return 0;
            }
            int least = NO_WAY;
            for (int decision = 0; decision < MOST_DECISIONS; decision++) {
                int bit = 1 << decision;
                if ((set & bit) != 0) {
                    least = Math.min(least, leastPeaks[set & ~bit]);
                }
            }
            return Math.max(least, brokenAt[set]);
        }

        private int leastRestFrom(int set) {
            if (set == moved) {
                return 0;
            }
            int least = NO_WAY;
            for (int decision = 0; decision < MOST_DECISIONS; decision++) {
                if (canGo(set, decision)) {
                    least = Math.min(least, restBy(set, decision));
                }
            }
            return least;
        }

        private boolean canGo(int set, int decision) {
            int bit = 1 << decision;
            return (moved & bit) != 0 && (set & bit) == 0 && brokenAt[set | bit] <= peak;
        }

        private int restBy(int set, int decision) {
            int next = set | 1 << decision;
            return brokenAt[next] + leastRests[next];
        }

        private void follow() {
            int set = 0;
            for (int i = 0; i < MOST_DECISIONS && set != moved; i++) {
                int decision = nextFrom(set);
                if (decision == NONE) {
                    return;
                }
                set |= 1 << decision;
                steps[i] = decision;
                brokenSteps[i] = brokenAt[set];
                length = i + 1;
            }
        }

        private int nextFrom(int set) {
            for (int decision = 0; decision < MOST_DECISIONS; decision++) {
                if (canGo(set, decision) && restBy(set, decision) == leastRests[set]) {
                    return decision;
                }
            }
            return NONE;
        }
    }
}
