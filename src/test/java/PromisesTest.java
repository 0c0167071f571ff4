/** Promise by promise: ordinary inputs, the edges that the document names, and wrong inputs. */
public final class PromisesTest {
    private static final int UNKNOWN = -1, OUTSIDE = -2, STATE = -3, ROOM = -4, NONE = -5;
    private static final int LEAST = Integer.MIN_VALUE, MOST = Integer.MAX_VALUE;
    private static int wrong = 0;

    private static void due(String what, int want, int got) {
        if (got != want) {
            wrong++;
            System.out.println(what + " answered " + got + ", due is " + want);
        }
    }

    public static void main(String[] args) {
        newObject();
        decision();
        weight();
        worth();
        pin();
        limit();
        fact();
        change();
        rule();
        ruleKinds();
        first();
        put();
        value();
        keep();
        base();
        old();
        run();
        bestOfSeveral();
        undo();
        told();
        near();
        least();
        without();
        spare();
        why();
        way();
        wayByPeakThenSum();
        broken();
        clash();
        clashBySizeThenNumbers();
        objectsAreApart();
        anyNumbersAnywhere();
        System.out.println(wrong == 0 ? "all answers are as due" : wrong + " answers are not as due");
        if (wrong != 0) System.exit(1);
    }

    private static NearPlans withDecisions(int count, int low, int high) {
        NearPlans x = new NearPlans();
        for (int i = 0; i < count; i++) x.decision(low, high, i % 4);
        return x;
    }

    private static void dueValues(String what, NearPlans x, int... values) {
        for (int i = 0; i < values.length; i++) due(what + ": value(" + i + ")", values[i], x.value(i));
    }

    // ---- 1

    private static void newObject() {
        due("1 UNKNOWN", -1, NearPlans.UNKNOWN);
        due("1 OUTSIDE", -2, NearPlans.OUTSIDE);
        due("1 STATE", -3, NearPlans.STATE);
        due("1 ROOM", -4, NearPlans.ROOM);
        due("1 NONE", -5, NearPlans.NONE);
        NearPlans x = new NearPlans();
        int[] nothing = {0, 0, 0, 0, 0, 0, 1, NONE};
        for (int i = 0; i < nothing.length; i++) due("1 told(" + i + ")", nothing[i], x.told(i));
        due("1 no decision", UNKNOWN, x.value(0));
        due("1 no fact", UNKNOWN, x.change(0, 0));
        due("1 no rule", UNKNOWN, x.without(0));
        due("1 no kept plan", UNKNOWN, x.base(0));
        due("1 near first", 0, x.first(0));
        for (int person = 0; person < 4; person++) due("1 limit", 6, x.limit(person, 6));
        due("1 nothing to undo", STATE, x.undo());
    }

    // ---- 2

    private static void decision() {
        NearPlans x = new NearPlans();
        int[][] outside = {{-1, 5, 0}, {6, 6, 0}, {0, 6, 0}, {0, -1, 0}, {3, 2, 0}, {0, 5, -1}, {0, 5, 4},
            {LEAST, 5, 0}, {0, MOST, 0}, {0, 5, MOST}};
        for (int[] a : outside) due("2 outside", OUTSIDE, x.decision(a[0], a[1], a[2]));
        due("2 refused ones do not count", 0, x.decision(0, 5, 0));
        due("2 one value", 1, x.decision(5, 5, 3));
        due("2 low at first", 5, x.value(1));
        due("2 third", 2, x.decision(2, 3, 1));
        due("2 low at first", 2, x.value(2));
        for (int i = 3; i < 6; i++) due("2 number", i, x.decision(0, 0, 0));
        due("2 room", ROOM, x.decision(0, 0, 0));
        due("2 outside before room", OUTSIDE, x.decision(0, 6, 0));
        x.keep();
        due("2 state before room", STATE, x.decision(0, 0, 0));
        due("2 outside before state", OUTSIDE, x.decision(1, 0, 0));
        NearPlans y = withDecisions(1, 0, 1);
        y.run();
        y.keep();
        due("2 state", STATE, y.decision(0, 0, 0));
        due("2 state changes nothing", UNKNOWN, y.value(1));
    }

    // ---- 3

    private static void weight() {
        NearPlans x = withDecisions(2, 0, 5);
        x.keep();
        x.put(0, 3);
        due("3 weight 1, per 0 at first", 1, x.told(0));
        due("3 answer", 1, x.weight(0, 10, 2));
        due("3 cost", 16, x.told(0));
        due("3 most", 1, x.weight(0, 100, 20));
        due("3 cost", 160, x.told(0));
        due("3 least", 1, x.weight(0, 0, 0));
        due("3 cost", 0, x.told(0));
        x.weight(0, 7, 1);
        due("3 unknown", UNKNOWN, x.weight(2, 1, 1));
        due("3 unknown", UNKNOWN, x.weight(-1, 1, 1));
        due("3 unknown before outside", UNKNOWN, x.weight(2, -1, 99));
        int[][] outside = {{-1, 0}, {101, 0}, {0, -1}, {0, 21}, {LEAST, 0}, {0, MOST}};
        for (int[] a : outside) due("3 outside", OUTSIDE, x.weight(0, a[0], a[1]));
        due("3 what is refused changes nothing", 10, x.told(0));
        x.put(0, 0);
        due("3 only what is moved costs", 0, x.told(0));
        x.put(1, 5);
        due("3 the other one's weight", 1, x.told(0));
        x.weight(1, 2, 4);
        x.keep();
        x.put(1, 2);
        due("3 as far down as up", 14, x.told(0));
    }

    // ---- 4

    private static void worth() {
        NearPlans x = new NearPlans();
        x.decision(1, 2, 0);
        due("4 0 at first", 0, x.worth(0, 1, 7));
        due("4 what it was", 7, x.worth(0, 1, 100));
        due("4 most", 100, x.worth(0, 1, 9));
        due("4 one that it can't have", 0, x.worth(0, 5, 50));
        due("4 one that it can't have", 50, x.worth(0, 5, 50));
        due("4 one that it can't have", 0, x.worth(0, 0, 50));
        due("4 told", 9, x.told(1));
        due("4 unknown", UNKNOWN, x.worth(1, 0, 0));
        due("4 unknown", UNKNOWN, x.worth(-1, 0, 0));
        due("4 unknown before outside", UNKNOWN, x.worth(1, 6, 101));
        int[][] outside = {{-1, 0}, {6, 0}, {0, -1}, {0, 101}, {NONE, 0}, {MOST, 0}, {0, LEAST}};
        for (int[] a : outside) due("4 outside", OUTSIDE, x.worth(0, a[0], a[1]));
        due("4 refused changes nothing", 50, x.worth(0, 0, 0));
        due("4 none is taken that it can't have", 0, x.run());
        due("4 none is taken that it can't have", 1, x.value(0));
    }

    // ---- 5

    private static void pin() {
        NearPlans x = new NearPlans();
        x.decision(1, 4, 0);
        x.decision(0, 5, 0);
        due("5 answer", 1, x.pin(0, 3));
        due("5 the plan stays", 1, x.value(0));
        due("5 the plan is not allowed", 0, x.told(6));
        due("5 run", 0, x.run());
        due("5 pinned", 3, x.value(0));
        due("5 outside", OUTSIDE, x.pin(0, 0));
        due("5 outside", OUTSIDE, x.pin(0, 5));
        due("5 outside", OUTSIDE, x.pin(0, -1));
        due("5 outside", OUTSIDE, x.pin(0, -4));
        due("5 outside", OUTSIDE, x.pin(0, MOST));
        due("5 unknown", UNKNOWN, x.pin(2, 0));
        due("5 unknown", UNKNOWN, x.pin(-1, NONE));
        due("5 unknown before outside", UNKNOWN, x.pin(2, 9));
        x.worth(0, 4, 9);
        x.run();
        due("5 refused ones keep the pin", 3, x.value(0));
        due("5 pinned to another", 1, x.pin(0, 2));
        x.run();
        due("5 pinned to another", 2, x.value(0));
        due("5 to none", 1, x.pin(0, NONE));
        due("5 to none again", 1, x.pin(0, NONE));
        x.run();
        due("5 free again", 4, x.value(0));
    }

    // ---- 6

    private static void limit() {
        NearPlans x = new NearPlans();
        due("6 at first", 6, x.limit(0, 0));
        due("6 what it was", 0, x.limit(0, 1));
        due("6 what it was", 1, x.limit(0, 6));
        due("6 others", 6, x.limit(3, 2));
        int[][] outside = {{-1, 0}, {4, 0}, {0, -1}, {0, 7}, {MOST, 0}, {0, LEAST}};
        for (int[] a : outside) due("6 outside", OUTSIDE, x.limit(a[0], a[1]));
        due("6 refused changes nothing", 6, x.limit(0, 1));
        x.decision(0, 1, 0);
        x.decision(0, 1, 0);
        x.decision(0, 1, 1);
        x.put(0, 1);
        x.put(1, 1);
        due("6 without a base nothing is moved", 1, x.told(6));
        x.put(0, 0);
        x.put(1, 0);
        x.keep();
        x.put(0, 1);
        x.put(2, 1);
        due("6 at the limit", 1, x.told(6));
        x.put(1, 1);
        due("6 above the limit", 0, x.told(6));
        due("6 plans within the limit", 6, x.near(2000));
    }

    // ---- 7

    private static void fact() {
        NearPlans x = new NearPlans();
        due("7 outside", OUTSIDE, x.fact(21));
        due("7 outside", OUTSIDE, x.fact(-21));
        due("7 outside", OUTSIDE, x.fact(MOST));
        due("7 outside", OUTSIDE, x.fact(LEAST));
        due("7 first", 0, x.fact(-20));
        due("7 second", 1, x.fact(20));
        for (int i = 2; i < 6; i++) due("7 number", i, x.fact(i));
        due("7 room", ROOM, x.fact(0));
        due("7 outside before room", OUTSIDE, x.fact(21));
        for (int i = 2; i < 6; i++) due("7 its number is kept", i, x.change(i, i));
        x.decision(0, 0, 0);
        x.keep();
        due("7 state before room", STATE, x.fact(0));
        due("7 outside before state", OUTSIDE, x.fact(-21));
        NearPlans y = withDecisions(1, 0, 0);
        y.keep();
        due("7 state", STATE, y.fact(0));
        due("7 state changes nothing", UNKNOWN, y.change(0, 0));
    }

    // ---- 8

    private static void change() {
        NearPlans x = new NearPlans();
        x.fact(-1);
        x.fact(9);
        due("8 what it was, the same as UNKNOWN", -1, x.change(0, -20));
        due("8 what it was", -20, x.change(0, 20));
        due("8 what it was", 20, x.change(0, 4));
        due("8 unknown", UNKNOWN, x.change(2, 0));
        due("8 unknown", UNKNOWN, x.change(-1, 0));
        due("8 unknown before outside", UNKNOWN, x.change(2, 21));
        due("8 outside", OUTSIDE, x.change(0, 21));
        due("8 outside", OUTSIDE, x.change(0, -21));
        due("8 outside", OUTSIDE, x.change(0, MOST));
        due("8 refused changes nothing", 4, x.change(0, 3));
        due("8 the other one", 9, x.change(1, 9));
        x.decision(4, 5, 0);
        x.rule(2, 0, 0, 1);
        due("8 the rule breaks", 1, x.told(4));
        x.keep();
        due("8 also behind a kept plan", 9, x.change(1, 8));
        due("8 the rule holds", 0, x.told(4));
    }

    // ---- 9

    private static void rule() {
        NearPlans x = new NearPlans();
        due("9 outside before unknown", OUTSIDE, x.rule(-1, 0, 0, 0));
        due("9 outside before unknown", OUTSIDE, x.rule(6, 0, 0, 0));
        due("9 outside b of 5", OUTSIDE, x.rule(5, 0, -1, 0));
        due("9 outside b of 5", OUTSIDE, x.rule(5, 0, 6, 0));
        due("9 outside kind", OUTSIDE, x.rule(MOST, 0, 0, 0));
        due("9 unknown fact of 5", UNKNOWN, x.rule(5, 0, 0, 0));
        x.decision(0, 5, 0);
        x.decision(0, 5, 0);
        due("9 unknown fact", UNKNOWN, x.rule(0, 0, 1, 0));
        x.fact(0);
        for (int kind = 0; kind < 5; kind++) {
            due("9 unknown a", UNKNOWN, x.rule(kind, 2, 0, 0));
            due("9 unknown a", UNKNOWN, x.rule(kind, -1, 0, 0));
            due("9 unknown b", UNKNOWN, x.rule(kind, 0, 2, 0));
            due("9 unknown b", UNKNOWN, x.rule(kind, 0, -1, 0));
            due("9 unknown fact", UNKNOWN, x.rule(kind, 0, 0, 1));
            due("9 unknown fact", UNKNOWN, x.rule(kind, 0, 0, -1));
        }
        due("9 refused ones do not count", 0, x.rule(0, 0, 1, 0));
        due("9 a is not looked at of 5", 1, x.rule(5, MOST, 5, 0));
        due("9 a is not looked at of 5", 2, x.rule(5, LEAST, 5, 0));
        x.keep();
        for (int i = 3; i < 12; i++) due("9 also behind a kept plan", i, x.rule(4, 0, 0, 0));
        due("9 room", ROOM, x.rule(4, 0, 0, 0));
        due("9 room", ROOM, x.rule(5, 0, 0, 0));
        due("9 unknown before room", UNKNOWN, x.rule(4, 2, 0, 0));
        due("9 outside before room", OUTSIDE, x.rule(6, 0, 0, 0));
        due("9 all hold", 0, x.told(4));
    }

    /** Each kind with the fact that just suffices and the next one that does not. */
    private static void ruleKinds() {
        int[][] rows = {
            // kind, x, y, fact that suffices, fact that does not
            {0, 4, 1, 3, 2}, {0, 1, 4, -3, -4}, {0, 2, 2, 0, -1},
            {1, 4, 1, 5, 4}, {1, 0, 0, 0, -1}, {1, 5, 5, 10, 9},
            {2, 4, 1, 5, 6}, {2, 0, 0, 0, 1}, {2, 5, 5, -20, 11},
            {3, 4, 1, 3, 4}, {3, 1, 4, 3, 4}, {3, 2, 2, 0, 1}, {3, 2, 2, -7, 1},
            {4, 4, 1, 3, 2}, {4, 1, 4, 3, 2}, {4, 2, 2, 0, -1}};
        for (int[] row : rows) {
            NearPlans x = withDecisions(3, 0, 5);
            x.fact(0);
            x.fact(row[3]);
            x.rule(row[0], 2, 1, 1);
            x.put(2, row[1]);
            x.put(1, row[2]);
            String what = "9 kind " + row[0] + " of " + row[1] + ", " + row[2] + " and ";
            due(what + row[3], 0, x.told(4));
            x.change(1, row[4]);
            due(what + row[4], 1, x.told(4));
        }
        NearPlans one = withDecisions(1, 3, 3);
        one.fact(6);
        for (int kind = 0; kind < 5; kind++) one.rule(kind, 0, 0, 0);
        due("9 a and b one: only 3 breaks", 0b01000, one.told(5));
        one.change(0, 5);
        due("9 a and b one: 1 and 3 break", 0b01010, one.told(5));
        one.change(0, -1);
        due("9 a and b one: 0, 1 and 4 break", 0b10011, one.told(5));
        NearPlans crowd = withDecisions(4, 0, 5);
        crowd.fact(2);
        crowd.rule(5, 77, 3, 0);
        crowd.put(0, 3);
        crowd.put(3, 3);
        due("9 kind 5: two", 0, crowd.told(4));
        crowd.put(1, 3);
        due("9 kind 5: three", 1, crowd.told(4));
        crowd.decision(3, 3, 0);
        crowd.change(0, 3);
        due("9 kind 5: decisions that came later count", 1, crowd.told(4));
        crowd.change(0, 4);
        due("9 kind 5: four", 0, crowd.told(4));
        NearPlans empty = new NearPlans();
        empty.fact(-1);
        empty.rule(5, 0, 0, 0);
        due("9 kind 5: none is more than -1", 1, empty.told(4));
        empty.change(0, 0);
        due("9 kind 5: none is not more than 0", 0, empty.told(4));
    }

    // ---- 10

    private static void first() {
        NearPlans x = new NearPlans();
        due("10 near first at first", 0, x.first(1));
        due("10 outside", OUTSIDE, x.first(2));
        due("10 outside", OUTSIDE, x.first(-1));
        due("10 outside", OUTSIDE, x.first(MOST));
        due("10 what it was", 1, x.first(1));
        due("10 what it was", 1, x.first(0));
        due("10 what it was", 0, x.first(0));
        x.decision(0, 5, 0);
        x.put(0, 2);
        x.keep();
        x.worth(0, 4, 3);
        due("10 near first stays", 0, x.run());
        due("10 near first stays", 2, x.value(0));
        x.first(1);
        due("10 worth first moves", 1, x.run());
        due("10 worth first moves", 4, x.value(0));
        due("10 least() is of the cost alone", 0, x.least());
    }

    // ---- 11

    private static void put() {
        NearPlans x = new NearPlans();
        x.decision(1, 3, 0);
        due("11 what it was", 1, x.put(0, 3));
        due("11 what it was", 3, x.put(0, 2));
        due("11 the same", 2, x.put(0, 2));
        due("11 outside", OUTSIDE, x.put(0, 0));
        due("11 outside", OUTSIDE, x.put(0, 4));
        due("11 outside", OUTSIDE, x.put(0, NONE));
        due("11 outside", OUTSIDE, x.put(0, MOST));
        due("11 unknown", UNKNOWN, x.put(1, 1));
        due("11 unknown", UNKNOWN, x.put(-1, 1));
        due("11 unknown before outside", UNKNOWN, x.put(1, 9));
        due("11 refused changes nothing", 2, x.value(0));
        x.pin(0, 1);
        due("11 pinned or not", 2, x.put(0, 3));
        due("11 pinned or not", 3, x.value(0));
    }

    // ---- 12

    private static void value() {
        NearPlans x = withDecisions(2, 2, 5);
        x.put(1, 4);
        due("12 value", 2, x.value(0));
        due("12 value", 4, x.value(1));
        due("12 unknown", UNKNOWN, x.value(2));
        due("12 unknown", UNKNOWN, x.value(-1));
        due("12 unknown", UNKNOWN, x.value(LEAST));
        due("12 unknown", UNKNOWN, x.value(MOST));
    }

    // ---- 13

    private static void keep() {
        NearPlans x = new NearPlans();
        due("13 state", STATE, x.keep());
        x.decision(0, 5, 0);
        x.fact(1);
        due("13 refused changes nothing", NONE, x.told(7));
        due("13 first", 0, x.keep());
        due("13 the base", 0, x.told(7));
        x.put(0, 3);
        due("13 second", 1, x.keep());
        due("13 the base", 1, x.told(7));
        due("13 of the base nothing is moved", 0, x.told(2));
        x.base(0);
        x.put(0, 5);
        due("13 third", 2, x.keep());
        due("13 the base", 2, x.told(7));
        x.base(1);
        due("13 room", ROOM, x.keep());
        due("13 refused changes nothing", 1, x.told(7));
        due("13 values as they were", 0, x.old(0, 0));
        due("13 values as they were", 3, x.old(1, 0));
        due("13 values as they were", 5, x.old(2, 0));
    }

    // ---- 14

    private static void base() {
        NearPlans x = withDecisions(1, 0, 5);
        due("14 unknown", UNKNOWN, x.base(0));
        due("14 unknown", UNKNOWN, x.base(NONE));
        x.keep();
        x.put(0, 3);
        x.keep();
        due("14 which was", 1, x.base(0));
        due("14 which was", 0, x.base(0));
        due("14 the plan is moved now", 1, x.told(2));
        due("14 unknown", UNKNOWN, x.base(2));
        due("14 unknown", UNKNOWN, x.base(-1));
        due("14 unknown", UNKNOWN, x.base(MOST));
        due("14 refused changes nothing", 0, x.base(1));
        due("14 the plan is not moved now", 0, x.told(2));
        due("14 the plan stays", 3, x.value(0));
    }

    // ---- 15

    private static void old() {
        NearPlans x = withDecisions(2, 0, 5);
        due("15 unknown", UNKNOWN, x.old(0, 0));
        x.put(1, 4);
        x.keep();
        x.put(1, 2);
        due("15 old", 0, x.old(0, 0));
        due("15 old", 4, x.old(0, 1));
        due("15 unknown plan", UNKNOWN, x.old(1, 0));
        due("15 unknown plan", UNKNOWN, x.old(-1, 0));
        due("15 unknown decision", UNKNOWN, x.old(0, 2));
        due("15 unknown decision", UNKNOWN, x.old(0, -1));
        due("15 unknown both", UNKNOWN, x.old(MOST, LEAST));
    }

    // ---- 16

    private static void run() {
        NearPlans x = new NearPlans();
        due("16 state", STATE, x.run());
        x.fact(-1);
        x.rule(5, 0, 0, 0);
        due("16 state also if no rule can hold", STATE, x.run());
        x.decision(0, 5, 0);
        x.put(0, 3);
        due("16 none", NONE, x.run());
        due("16 the plan stays", 3, x.value(0));
        due("16 none is not to be undone", STATE, x.undo());
        x.change(0, 0);
        due("16 without a base it costs nothing", 0, x.run());
        due("16 the least values", 1, x.value(0));

        NearPlans y = withDecisions(3, 0, 5);
        y.fact(3);
        y.rule(2, 0, 2, 0);
        y.put(0, 3);
        y.weight(0, 2, 1);
        y.weight(2, 3, 3);
        y.keep();
        y.change(0, 5);
        due("16 the nearest", 4, y.run());
        dueValues("16 the nearest", y, 5, 0, 0);
        y.change(0, 6);
        due("16 nearest from the base, not from the plan", 4 + 6, y.least());
        y.change(0, 10);
        due("16 both must move", 2 + 2 + 3 + 15, y.run());
        dueValues("16 both must move", y, 5, 0, 5);
        y.limit(2, 0);
        due("16 a person is spared", NONE, y.run());
        dueValues("16 the plan stays", y, 5, 0, 5);
        y.limit(2, 6);
        y.pin(0, 4);
        due("16 pinned", NONE, y.run());
        y.change(0, 8);
        due("16 pinned", 3 + 3 + 12, y.run());
        dueValues("16 pinned", y, 4, 0, 4);
    }

    private static void bestOfSeveral() {
        NearPlans x = withDecisions(2, 0, 5);
        x.fact(2);
        x.rule(2, 0, 1, 0);
        x.keep();
        due("16 lesser value where they first differ", 1, x.run());
        dueValues("16 lesser value where they first differ", x, 0, 2);
        x.worth(0, 2, 1);
        x.worth(0, 3, 1);
        due("16 near first: then the greatest worth", 1, x.run());
        dueValues("16 near first: then the greatest worth", x, 2, 0);
        x.worth(1, 1, 1);
        due("16 near first: no dearer one", 1, x.run());
        dueValues("16 near first: no dearer one", x, 2, 0);
        x.first(1);
        due("16 worth first: a dearer one", 2, x.run());
        dueValues("16 worth first: a dearer one", x, 2, 1);
        x.weight(0, 9, 1);
        x.worth(1, 1, 0);
        due("16 worth first: then the least cost", 11, x.run());
        dueValues("16 worth first: then the least cost", x, 2, 0);
        x.weight(0, 9, 0);
        x.worth(1, 5, 0);
        due("16 worth first: then the lesser value", 9, x.run());
        dueValues("16 worth first: then the lesser value", x, 2, 0);
        NearPlans y = withDecisions(6, 0, 5);
        for (int i = 0; i < 6; i++) {
            y.weight(i, 100, 20);
            y.worth(i, 5, 100);
        }
        y.keep();
        y.first(1);
        due("16 the dearest of all", 1200, y.run());
        due("16 the worthiest of all", 600, y.told(1));
    }

    // ---- 17

    private static void undo() {
        NearPlans x = withDecisions(2, 0, 5);
        due("17 state", STATE, x.undo());
        x.put(0, 3);
        x.run();
        x.put(1, 4);
        x.pin(1, 2);
        x.run();
        dueValues("17 run", x, 0, 2);
        x.put(0, 5);
        due("17 one more", 1, x.undo());
        dueValues("17 before the second run", x, 0, 4);
        due("17 none more", 0, x.undo());
        dueValues("17 before the first run", x, 3, 0);
        due("17 state", STATE, x.undo());
        dueValues("17 refused changes nothing", x, 3, 0);
        due("17 pins stay", 0, x.told(6));

        NearPlans y = withDecisions(1, 0, 5);
        for (int i = 0; i < 12; i++) {
            y.put(0, i % 6);
            y.pin(0, (i + 1) % 6);
            y.run();
        }
        for (int i = 7; i >= 0; i--) {
            due("17 eight are known", i, y.undo());
            due("17 what was before", (i + 4) % 6, y.value(0));
        }
        due("17 no ninth", STATE, y.undo());
        y.put(0, 5);
        y.run();
        due("17 a later run", 0, y.undo());
        due("17 a later run", 5, y.value(0));

        NearPlans z = withDecisions(1, 0, 5);
        z.put(0, 2);
        z.run();
        z.decision(1, 5, 0);
        z.put(1, 4);
        due("17 later decisions", 0, z.undo());
        dueValues("17 later decisions stay", z, 2, 4);

        NearPlans n = withDecisions(1, 0, 5);
        n.fact(0);
        n.put(0, 3);
        n.run();
        n.rule(3, 0, 0, 0);
        n.change(0, 1);
        n.put(0, 4);
        due("17 a run that is NONE", NONE, n.run());
        due("17 does not count", 0, n.undo());
        due("17 does not count", 3, n.value(0));
    }

    // ---- 18

    private static void told() {
        NearPlans x = withDecisions(6, 0, 5);
        x.fact(4);
        x.rule(1, 0, 1, 0);
        x.rule(2, 0, 1, 0);
        x.rule(4, 2, 5, 0);
        x.worth(0, 5, 30);
        x.worth(5, 0, 4);
        x.keep();
        x.put(0, 5);
        x.put(2, 5);
        x.put(4, 1);
        x.weight(2, 10, 3);
        due("18 cost", 1 + 25 + 1, x.told(0));
        due("18 worth", 34, x.told(1));
        due("18 moved", 3, x.told(2));
        due("18 moved bits", 0b010101, x.told(3));
        due("18 broken", 2, x.told(4));
        due("18 broken bits", 0b101, x.told(5));
        due("18 allowed, rules broken or not", 1, x.told(6));
        due("18 base", 0, x.told(7));
        x.limit(0, 1);
        due("18 not allowed by the limit", 0, x.told(6));
        x.limit(0, 2);
        due("18 allowed at the limit", 1, x.told(6));
        x.pin(1, 1);
        due("18 not allowed by a pin", 0, x.told(6));
        x.put(1, 1);
        due("18 allowed by a pin", 1, x.told(6));
        int[] outside = {-1, 8, NONE, LEAST, MOST};
        for (int what : outside) due("18 outside", OUTSIDE, x.told(what));
    }

    // ---- 19

    private static void near() {
        NearPlans x = new NearPlans();
        due("19 outside before state", OUTSIDE, x.near(-1));
        due("19 outside before state", OUTSIDE, x.near(2001));
        due("19 state", STATE, x.near(0));
        x.decision(0, 5, 0);
        x.decision(0, 5, 1);
        due("19 without a base", 36, x.near(0));
        x.weight(0, 3, 1);
        x.keep();
        due("19 only the base and what costs nothing", 1, x.near(0));
        due("19 the other one moves", 6, x.near(1));
        due("19 not yet", 6, x.near(3));
        due("19 one step", 7, x.near(4));
        due("19 one step and the other one", 13, x.near(5));
        due("19 all", 36, x.near(9));
        due("19 all", 36, x.near(2000));
        x.limit(0, 0);
        due("19 limits count", 6, x.near(2000));
        x.pin(1, 2);
        due("19 pins count", 1, x.near(2000));
        due("19 outside", OUTSIDE, x.near(MOST));
        due("19 outside", OUTSIDE, x.near(LEAST));
        due("19 every plan", 46656, withDecisions(6, 0, 5).near(0));
        NearPlans y = withDecisions(2, 0, 5);
        y.fact(2);
        y.rule(1, 0, 1, 0);
        due("19 rules count", 6, y.near(0));
        y.change(0, -1);
        due("19 none", 0, y.near(2000));
    }

    // ---- 20

    private static void least() {
        NearPlans x = new NearPlans();
        due("20 state", STATE, x.least());
        x.decision(0, 5, 0);
        x.decision(0, 5, 0);
        x.fact(0);
        x.rule(2, 0, 1, 0);
        x.weight(0, 5, 0);
        x.weight(1, 2, 2);
        x.worth(0, 5, 100);
        x.keep();
        due("20 the base holds", 0, x.least());
        x.change(0, 1);
        due("20 the cheaper one", 4, x.least());
        x.change(0, 2);
        due("20 the cheaper one", 5, x.least());
        x.first(1);
        due("20 worth is not looked at", 5, x.least());
        due("20 the plan stays", 0, x.value(0));
        x.change(0, 11);
        due("20 none", NONE, x.least());
        due("20 nothing to undo", STATE, x.undo());
    }

    // ---- 21

    private static void without() {
        NearPlans x = new NearPlans();
        due("21 unknown before state", UNKNOWN, x.without(0));
        x.fact(-1);
        x.rule(5, 0, 0, 0);
        due("21 state", STATE, x.without(0));
        due("21 unknown", UNKNOWN, x.without(1));
        due("21 unknown", UNKNOWN, x.without(-1));
        due("21 unknown", UNKNOWN, x.without(MOST));
        x.decision(0, 5, 0);
        due("21 a rule that never holds", 0, x.without(0));
        due("21 it is still there", NONE, x.least());
        x.rule(5, 0, 1, 0);
        due("21 the other one never holds", NONE, x.without(0));
        NearPlans y = withDecisions(2, 0, 5);
        y.fact(2);
        y.fact(3);
        y.rule(2, 0, 0, 0);
        y.rule(2, 1, 1, 1);
        y.weight(0, 10, 1);
        y.weight(1, 20, 1);
        y.keep();
        due("21 with all", 33, y.least());
        due("21 without the first", 22, y.without(0));
        due("21 without the second", 11, y.without(1));
        due("21 all are still there", 33, y.least());
    }

    // ---- 22

    private static void spare() {
        NearPlans x = new NearPlans();
        due("22 outside before state", OUTSIDE, x.spare(-1));
        due("22 outside before state", OUTSIDE, x.spare(4));
        due("22 state", STATE, x.spare(0));
        x.decision(0, 5, 1);
        x.decision(0, 5, 2);
        x.fact(4);
        x.rule(2, 0, 1, 0);
        x.pin(0, 0);
        due("22 without a base none is moved", 0, x.spare(1));
        x.pin(0, NONE);
        x.weight(0, 1, 1);
        x.weight(1, 5, 1);
        x.keep();
        due("22 least", 5, x.least());
        due("22 one is spared", 9, x.spare(1));
        due("22 the other one is spared", 5, x.spare(2));
        due("22 one with no decision", 5, x.spare(0));
        due("22 limits stay", 6, x.limit(1, 6));
        x.limit(2, 0);
        due("22 none", NONE, x.spare(1));
        due("22 none is moved", 5, x.spare(2));
        due("22 outside", OUTSIDE, x.spare(MOST));
        due("22 outside", OUTSIDE, x.spare(LEAST));
    }

    // ---- 23

    private static void why() {
        NearPlans x = withDecisions(3, 0, 5);
        x.fact(0);
        x.fact(0);
        x.fact(0);
        x.rule(2, 0, 0, 1);
        x.rule(2, 1, 1, 2);
        due("23 unknown", UNKNOWN, x.why(3));
        due("23 unknown", UNKNOWN, x.why(-1));
        x.put(0, 1);
        due("23 without a base nothing is moved", STATE, x.why(0));
        x.put(0, 0);
        x.keep();
        due("23 not moved", STATE, x.why(0));
        x.change(0, 5);
        x.change(1, 2);
        x.change(2, 4);
        due("23 run", 2, x.run());
        due("23 the fact of its rule", 1, x.why(0));
        due("23 the fact of its rule", 2, x.why(1));
        due("23 not moved", STATE, x.why(2));
        x.put(2, 4);
        due("23 moved by hand: the least fact that changed", 0, x.why(2));
        x.change(0, 0);
        due("23 the least fact that is another one now", 1, x.why(2));
        x.change(1, 0);
        due("23 no longer needed: any changed fact", 2, x.why(0));
        x.change(2, 0);
        due("23 no fact changed", NONE, x.why(0));
        dueValues("23 the plan stays", x, 1, 2, 4);
        due("23 facts stay", 0, x.change(2, 0));

        NearPlans y = withDecisions(1, 0, 5);
        y.fact(0);
        y.fact(0);
        y.rule(2, 0, 0, 0);
        y.rule(2, 0, 0, 1);
        y.keep();
        y.change(0, 2);
        y.change(1, 4);
        y.run();
        due("23 both facts move it, neither alone", NONE, y.why(0));
        y.change(0, 0);
        due("23 one alone", 1, y.why(0));
        y.keep();
        y.base(0);
        y.change(1, 20);
        y.change(0, 1);
        due("23 none holds with the first as it was", NONE, y.why(0));
        y.base(1);
        due("23 of the other base it is not moved", STATE, y.why(0));

        NearPlans all = withDecisions(1, 0, 5);
        for (int i = 0; i < 6; i++) all.fact(0);
        all.rule(2, 0, 0, 5);
        all.rule(2, 0, 0, 0);
        all.keep();
        for (int i = 0; i < 6; i++) all.change(i, 2);
        all.run();
        due("23 none of six facts alone", NONE, all.why(0));
        all.change(0, -2);
        due("23 the last fact", 5, all.why(0));

        NearPlans z = withDecisions(1, 0, 5);
        z.fact(1);
        z.rule(1, 0, 0, 0);
        z.worth(0, 3, 9);
        z.keep();
        z.change(0, 10);
        z.put(0, 3);
        due("23 near first: the base is the best", 0, z.why(0));
        z.first(1);
        due("23 worth first", 0, z.why(0));
        z.worth(0, 0, 1);
        z.put(0, 5);
        due("23 moved by hand", 0, z.why(0));
        z.change(0, 9);
        z.put(0, 3);
        z.keep();
        z.put(0, 0);
        z.change(0, 1);
        due("23 with the fact as it was the base's value is the best again", 0, z.why(0));
        z.worth(0, 4, 10);
        due("23 with the fact as it was another value is the best", NONE, z.why(0));
        z.first(0);
        due("23 near first it is the base's value", 0, z.why(0));
    }

    // ---- 24, 25

    private static void way() {
        NearPlans x = withDecisions(3, 0, 5);
        due("24 state", STATE, x.way(0));
        due("24 state", STATE, x.way(-1));
        x.keep();
        due("24 nothing is moved", NONE, x.way(0));
        x.put(2, 1);
        x.put(0, 1);
        due("24 lesser first", 0, x.way(0));
        due("24 then the next", 2, x.way(1));
        due("24 no such place", NONE, x.way(2));
        due("24 no such place", NONE, x.way(-1));
        due("24 no such place", NONE, x.way(LEAST));
        due("24 no such place", NONE, x.way(MOST));
        NearPlans y = withDecisions(2, 0, 5);
        y.fact(0);
        y.rule(0, 0, 1, 0);
        y.keep();
        y.put(0, 3);
        y.put(1, 3);
        due("24 the later one first, as nothing breaks then", 1, y.way(0));
        due("24 the other one", 0, y.way(1));
        due("25 nothing breaks", 0, y.broken(0));
        due("25 nothing breaks", 0, y.broken(1));
        y.change(0, 3);
        due("24 facts as they are now", 0, y.way(0));
        due("24 the plan stays", 3, y.value(0));
        NearPlans z = withDecisions(6, 0, 5);
        z.keep();
        for (int i = 0; i < 6; i++) z.put(i, 5);
        for (int i = 0; i < 6; i++) due("24 six", i, z.way(i));
        due("24 no seventh", NONE, z.way(6));
    }

    /** Base 0 0 0, plan 1 1 1; so many rules that are broken while a has moved and b has not. */
    private static NearPlans withOrders(int... timesAB) {
        NearPlans x = withDecisions(3, 0, 1);
        x.fact(0);
        for (int i = 0; i + 2 < timesAB.length; i += 3) {
            for (int n = 0; n < timesAB[i]; n++) x.rule(0, timesAB[i + 1], timesAB[i + 2], 0);
        }
        x.keep();
        for (int i = 0; i < 3; i++) x.put(i, 1);
        return x;
    }

    private static void dueWay(String what, NearPlans x, int[] way, int[] broken) {
        for (int i = 0; i < way.length; i++) {
            due("24 " + what + ": way(" + i + ")", way[i], x.way(i));
            due("25 " + what + ": broken(" + i + ")", broken[i], x.broken(i));
        }
    }

    private static void wayByPeakThenSum() {
        dueWay("none broken", withOrders(1, 0, 1, 1, 0, 2, 1, 1, 2), new int[] {2, 1, 0}, new int[] {0, 0, 0});
        // Behind {0}: 2, {1}: 1, {2}: 2, {0, 1}: 2, {0, 2}: 1, {1, 2}: 2. Peak 2 and sum 3 have 0 2 1, 1 0 2, 1 2 0, 2 0 1.
        dueWay("the lesser decision", withOrders(1, 0, 1, 1, 0, 2, 1, 1, 2, 2, 2, 0), new int[] {0, 2, 1}, new int[] {2, 1, 0});
        // {0}: 3, {1}: 1, {2}: 2, {0, 1}: 3, {0, 2}: 1, {1, 2}: 2. Peak 2 and sum 3 have 1 2 0, 2 0 1.
        dueWay("the lesser of two", withOrders(1, 0, 1, 2, 0, 2, 1, 1, 2, 2, 2, 0), new int[] {1, 2, 0}, new int[] {1, 2, 0});
        // {0}: 3, {1}: 2, {2}: 2, {0, 1}: 1, {0, 2}: 5, {1, 2}: 1. Peak 2 and sum 3 have 1 0 2, 1 2 0, 2 1 0.
        dueWay("the least peak", withOrders(1, 1, 0, 1, 1, 2, 2, 2, 1, 3, 0, 1), new int[] {1, 0, 2}, new int[] {2, 1, 0});
        // {0}: 4, {1}: 3, {2}: 3, {0, 1}: 5, {0, 2}: 2, {1, 2}: 3. Peak 3 has 2 0 1 (sum 5), and 1 2 0 and 2 1 0 (sum 6).
        dueWay("of the least peak the least sum", withOrders(3, 1, 2, 3, 2, 0, 2, 0, 1, 2, 0, 2),
            new int[] {2, 0, 1}, new int[] {3, 2, 0});
        // {0}: 1, {1}: 3, {2}: 7, {0, 1}: 4, {0, 2}: 4, {1, 2}: 3. The sums 5 of 0 1 2 and 0 2 1 have peak 4.
        dueWay("the peak before the sum", withOrders(1, 0, 2, 3, 1, 2, 3, 2, 0, 4, 2, 1),
            new int[] {1, 2, 0}, new int[] {3, 3, 0});
    }

    private static void broken() {
        NearPlans x = withDecisions(2, 0, 5);
        due("25 state", STATE, x.broken(0));
        due("25 state", STATE, x.broken(-1));
        x.fact(0);
        x.rule(4, 0, 1, 0);
        x.keep();
        due("25 nothing is moved", NONE, x.broken(0));
        x.put(0, 2);
        x.put(1, 2);
        due("25 on the way", 1, x.broken(0));
        due("25 at its end", 0, x.broken(1));
        due("25 no such place", NONE, x.broken(2));
        due("25 no such place", NONE, x.broken(-1));
        due("25 no such place", NONE, x.broken(MOST));
        due("25 no such place", NONE, x.broken(LEAST));
        x.put(1, 3);
        due("25 the last step too", 1, x.broken(1));
        x.change(0, -1);
        x.put(0, 0);
        due("25 a rule that never holds", 1, x.broken(0));
        due("25 one step", NONE, x.broken(1));
    }

    // ---- 26

    private static void clash() {
        NearPlans x = new NearPlans();
        due("26 state", STATE, x.clash(-1));
        due("26 state", STATE, x.clash(0));
        due("26 state", STATE, x.clash(99));
        x.fact(-1);
        x.rule(5, 0, 3, 0);
        due("26 state, also with a rule that never holds", STATE, x.clash(-1));
        x.decision(0, 5, 0);
        due("26 one", 1, x.clash(-1));
        due("26 one", 0, x.clash(0));
        due("26 no such place", NONE, x.clash(1));
        due("26 no such place", NONE, x.clash(-2));
        due("26 no such place", NONE, x.clash(MOST));
        due("26 no such place", NONE, x.clash(LEAST));
        x.change(0, 0);
        due("26 none", NONE, x.clash(-1));
        due("26 none", NONE, x.clash(0));
        x.keep();
        x.pin(0, 2);
        x.limit(0, 0);
        due("26 of no rules", 0, x.clash(-1));
        due("26 of no rules", NONE, x.clash(0));
        x.change(0, -1);
        due("26 of no rules before one", 0, x.clash(-1));
        x.limit(0, 1);
        due("26 of one", 1, x.clash(-1));
        NearPlans y = withDecisions(1, 0, 5);
        y.keep();
        y.pin(0, 3);
        y.limit(0, 0);
        due("26 without rules", 0, y.clash(-1));
        y.limit(0, 1);
        due("26 without rules some plan holds", NONE, y.clash(-1));
    }

    private static void clashBySizeThenNumbers() {
        NearPlans x = withDecisions(6, 0, 5);
        x.fact(-1);
        x.fact(2);
        // x0 < x1 < x2 < x3 < x0: four clash, no three.
        x.rule(4, 4, 5, 1);
        x.rule(0, 0, 1, 0);
        x.rule(0, 1, 2, 0);
        x.rule(4, 4, 5, 1);
        x.rule(0, 2, 3, 0);
        due("26 not yet", NONE, x.clash(-1));
        x.rule(0, 3, 0, 0);
        int[] four = {4, 1, 2, 4, 5};
        for (int i = -1; i < 4; i++) due("26 four", four[i + 1], x.clash(i));
        due("26 no fifth", NONE, x.clash(4));
        // x4 < x5 < x4: two go before four.
        x.rule(0, 4, 5, 0);
        x.rule(0, 5, 4, 0);
        int[] two = {2, 6, 7};
        for (int i = -1; i < 2; i++) due("26 two", two[i + 1], x.clash(i));
        // x1 < x0, too: of the twos that with the lesser rule.
        x.rule(0, 1, 0, 0);
        int[] lesser = {2, 1, 8};
        for (int i = -1; i < 2; i++) due("26 lesser", lesser[i + 1], x.clash(i));
        x.rule(0, 1, 0, 0);
        for (int i = -1; i < 2; i++) due("26 the first of equals", lesser[i + 1], x.clash(i));
        x.pin(0, 5);
        int[] one = {1, 1};
        for (int i = -1; i < 1; i++) due("26 pins count", one[i + 1], x.clash(i));
        x.rule(3, 2, 2, 1);
        due("26 the lesser of ones", 1, x.clash(0));
        x.pin(0, NONE);
        due("26 the only one", 10, x.clash(0));
    }

    // ---- all

    private static void objectsAreApart() {
        NearPlans x = withDecisions(2, 0, 5);
        NearPlans y = new NearPlans();
        x.limit(0, 0);
        x.fact(3);
        x.keep();
        due("1 apart", UNKNOWN, y.value(0));
        due("1 apart", 6, y.limit(0, 6));
        due("1 apart", 0, y.fact(9));
        due("1 apart", NONE, y.told(7));
        due("1 apart", 3, x.change(0, 3));
    }

    /** No call may throw, whatever it is given in whatever state. For each number a new object, as 512 calls are its use. */
    private static void anyNumbersAnywhere() {
        int[] odd = {LEAST, LEAST + 1, -46656, -6, -5, -2, -1, 0, 1, 5, 6, 11, 12, 31, 32, 64, 4096, MOST - 1, MOST};
        for (int a : odd) {
            NearPlans[] states = {new NearPlans(), withDecisions(1, 2, 2), withDecisions(6, 0, 5), withDecisions(3, 0, 5)};
            states[3].fact(2);
            states[3].rule(2, 0, 1, 0);
            states[3].keep();
            states[3].put(0, 4);
            for (NearPlans x : states) anyNumbers(x, a, odd);
        }
    }

    private static void anyNumbers(NearPlans x, int a, int[] odd) {
        for (int b : odd) {
            x.pin(a, b);
            x.limit(a, b);
            x.change(a, b);
            x.put(a, b);
            x.old(a, b);
            x.weight(a, b, b);
            x.worth(b, a, b);
            x.decision(a, b, a);
            x.rule(a, b, a, b);
            x.rule(5, a, b, 0);
        }
        int[] answers = {x.value(a), x.base(a), x.told(a), x.near(a), x.without(a), x.spare(a), x.why(a), x.way(a), x.broken(a),
            x.clash(a), x.first(a), x.fact(a)};
        for (int answer : answers) if (answer < NONE) due("no such answer for " + a, 0, answer);
    }
}
