/** Promises 11 and 12: may, meet; with what rules are worth. */
public final class JudgeTest {
    private static final int LEAST = Integer.MIN_VALUE;
    private static final int MOST = Integer.MAX_VALUE;

    public static void main(String[] args) {
        wrongMay();
        worth();
        deepest();
        placeNames();
        manyPlaceRules();
        wrongMeet();
        pairNames();
        bothWays();
        fieldOfEach();
        Check.end();
    }

    private static void wrongMay() {
        LiveryYard yard = new LiveryYard();
        yard.horse(0, 0);
        yard.field(0, 1, 0);
        Check.same("may(0, 0, 3)", yard.may(0, 0, 3), true);
        int[][] wrong = {{-1, 0, 0}, {1, 0, 0}, {0, -1, 0}, {0, 6, 0}, {0, 0, -1}, {0, 0, 4}, {LEAST, 0, 0},
            {MOST, 0, 0}, {0, LEAST, 0}, {0, MOST, 0}, {0, 0, LEAST}, {0, 0, MOST}};
        for (int[] w : wrong) {
            Check.same("may(" + w[0] + ", " + w[1] + ", " + w[2] + ")", yard.may(w[0], w[1], w[2]), false);
        }
        yard.lame(0, true);
        Check.same("a lame one may", yard.may(0, 0, 0), true);
    }

    /** What an e is worth, seen through may at once and through a sum. */
    private static void is(String e, int worth) {
        LiveryYard yard = new LiveryYard();
        yard.horse(0, 0);
        yard.field(0, 1, 0);
        Check.same("rules of " + e, Check.rules(yard, "place " + e + ";"), 1);
        Check.same("may by " + e, yard.may(0, 0, 0), worth != 0);
        String told = worth < 0 ? "0-" + -worth : "" + worth;
        Check.same("rules of its worth", Check.rules(yard, "place (" + e + ")=" + told + ";"), 1);
        Check.same(e + " is " + worth, yard.may(0, 0, 0), true);
    }

    private static void worth() {
        is("7", 7);
        is("0", 0);
        is("000012", 12);
        is("1+2-4", -1);
        is("9-3-2", 4);
        is("9-(3-2)", 8);
        is("2=2", 1);
        is("2=3", 0);
        is("2<3", 1);
        is("3<3", 0);
        is("3>2", 1);
        is("3>3", 0);
        is("0-1<0", 1);
        is("1+1=3-1", 1);
        is("(2>1)+(2>1)", 2);
        is("not 5", 0);
        is("not 0", 1);
        is("not not 5", 1);
        is("not 0=1", 1);
        is("not 1=1", 0);
        is("not 2-2", 1);
        is("5 and 2", 1);
        is("5 and 0", 0);
        is("0 and 5", 0);
        is("5 or 0", 1);
        is("0 or 7", 1);
        is("0 or 0", 0);
        is("1 or 1 and 0", 1);
        is("(1 or 1) and 0", 0);
        is("0 and 0 or 1", 1);
        is("0 and (0 or 1)", 0);
        is("not 0 and 0", 0);
        is("not (0 and 0)", 1);
        is("1 and 1 and 3", 1);
        is("0 or 0 or 3", 1);
        is("1 or 0-1", 1);
        is("(0-1) and (0-1)", 1);
        is("1<2 and 2<3 or 3<2", 1);
        is("999999+999999-999999", 999999);
        is("1+(1+(1+(1+(1+(1+(1+1))))))", 8);
        is("1 or 1 and 1<1+(1 or 1 and 1<1+(1 or 1 and 1<1+(1 or 1 and 1<1+(0 or 1 and 0<1+(1)))))", 1);
        is("0 or 1 and 1<0+(0 or 1 and 1<0+(0 or 1 and 1<0+(0 or 1 and 1<0+(0 or 1 and 0<1+(1)))))", 0);
    }

    /** Every level leaves the left sides of or, and, < and + open while the next one is worked out. */
    private static void deepest() {
        for (int last = 0; last <= 1; last++) {
            String e = "0 or 1 and 1<1+" + last;
            int worth = last;
            for (int level = 1; level < 8; level++) {
                e = "0 or 1 and 1<1+(" + e + ")";
            }
            LiveryYard yard = new LiveryYard();
            yard.horse(0, 0);
            yard.field(0, 1, 0);
            Check.same("rules of the deepest", Check.rules(yard, "place " + e + ";"), 1);
            Check.same("the deepest with " + last, yard.may(0, 0, 0), worth != 0);
        }
    }

    private static void placeNames() {
        LiveryYard yard = new LiveryYard();
        yard.horse(3, 11);
        yard.night();
        yard.horse(2, 12);
        yard.night();
        yard.night();
        yard.lame(1, true);
        yard.field(4, 2, 7);
        yard.field(2, 2, 5);
        holds(yard, "horse=1", 1, 4, 2);
        holds(yard, "kind=2", 1, 4, 2);
        holds(yard, "age=12", 1, 4, 2);
        holds(yard, "days=2", 1, 4, 2);
        holds(yard, "lame=1", 1, 4, 2);
        holds(yard, "field=4", 1, 4, 2);
        holds(yard, "wet=7", 1, 4, 2);
        holds(yard, "hour=2", 1, 4, 2);
        holds(yard, "horse=0", 0, 2, 0);
        holds(yard, "kind=3", 0, 2, 0);
        holds(yard, "age=11", 0, 2, 0);
        holds(yard, "days=3", 0, 2, 0);
        holds(yard, "lame=0", 0, 2, 0);
        holds(yard, "field=2", 0, 2, 0);
        holds(yard, "wet=5", 0, 2, 0);
        holds(yard, "hour=0", 0, 2, 0);
        Check.rules(yard, "place days=3;");
        yard.night();
        Check.same("days go on", yard.may(1, 4, 0), true);
        Check.same("days go on for all", yard.may(0, 4, 0), false);
    }

    private static void holds(LiveryYard yard, String e, int horse, int field, int hour) {
        Check.rules(yard, "place " + e + ";");
        Check.same(e, yard.may(horse, field, hour), true);
        Check.rules(yard, "place not " + e + ";");
        Check.same("not " + e, yard.may(horse, field, hour), false);
    }

    private static void manyPlaceRules() {
        LiveryYard yard = new LiveryYard();
        yard.horse(0, 0);
        yard.horse(0, 0);
        yard.field(0, 1, 0);
        Check.rules(yard, "place 1;".repeat(11) + "place hour;");
        Check.same("the last of twelve", yard.may(0, 0, 0), false);
        Check.same("all of twelve", yard.may(0, 0, 1), true);
        Check.rules(yard, "place hour;" + "place 1;".repeat(11));
        Check.same("the first of twelve", yard.may(0, 0, 0), false);
        Check.rules(yard, "pair 0; place 1; pair 0;");
        Check.same("pair rules are none of a place", yard.may(0, 0, 0), true);
        Check.rules(yard, "place 0; pair 1; place 0;");
        Check.same("place rules are none of a pair", yard.meet(0, 0, 1, 0, 0), true);
    }

    private static void wrongMeet() {
        LiveryYard yard = new LiveryYard();
        yard.horse(0, 0);
        yard.horse(0, 0);
        Check.same("meet without room", yard.meet(0, 0, 1, 0, 0), true);
        yard.shut(0, 9);
        Check.same("meet where it is shut", yard.meet(1, 0, 0, 0, 3), true);
        Check.same("meet without a gate", yard.meet(1, 5, 0, 0, 3), true);
        int[][] wrong = {{0, 0, 0, 0, 0}, {0, 0, 0, 1, 0}, {-1, 0, 1, 0, 0}, {2, 0, 1, 0, 0}, {0, -1, 1, 0, 0},
            {0, 6, 1, 0, 0}, {0, 0, -1, 0, 0}, {0, 0, 2, 0, 0}, {0, 0, 1, -1, 0}, {0, 0, 1, 6, 0}, {0, 0, 1, 0, -1},
            {0, 0, 1, 0, 4}, {LEAST, 0, 1, 0, 0}, {0, MOST, 1, 0, 0}, {0, 0, MOST, 0, 0}, {0, 0, 1, LEAST, 0},
            {0, 0, 1, 0, MOST}, {5, 7, 5, 7, 0}, {2, 0, 2, 0, 0}};
        for (int[] w : wrong) {
            Check.same("a wrong meet", yard.meet(w[0], w[1], w[2], w[3], w[4]), false);
        }
    }

    private static LiveryYard twoByAGate() {
        LiveryYard yard = new LiveryYard();
        yard.horse(1, 20);
        yard.night();
        yard.horse(2, 30);
        yard.night();
        yard.night();
        yard.lame(1, true);
        yard.field(3, 1, 6);
        yard.field(4, 1, 8);
        yard.gate(3, 4, true);
        return yard;
    }

    /** The e holds for one pair both ways, if the one is horse 0 in field 3 and if it is horse 1 in field 4. */
    private static void pairNames() {
        String[] each = {
            "horse=0 and horse2=1", "horse=1 and horse2=0", "kind=1 and kind2=2", "kind=2 and kind2=1",
            "age=20 and age2=30", "age=30 and age2=20", "days=3 and days2=2", "days=2 and days2=3",
            "lame=0 and lame2=1", "lame=1 and lame2=0", "horse=0 and field=3", "horse=1 and field=4",
            "horse=0 and wet=6", "horse=1 and wet=8"};
        LiveryYard yard = twoByAGate();
        for (int i = 0; i < each.length; i += 2) {
            Check.rules(yard, "pair " + each[i] + " or " + each[i + 1] + ";");
            Check.same(each[i] + " or so", yard.meet(0, 3, 1, 4, 2), true);
            Check.rules(yard, "pair " + each[i] + ";");
            Check.same(each[i] + " alone", yard.meet(0, 3, 1, 4, 2), false);
            Check.rules(yard, "pair " + each[i + 1] + ";");
            Check.same(each[i + 1] + " alone", yard.meet(0, 3, 1, 4, 2), false);
        }
        Check.rules(yard, "pair hour=2;");
        Check.same("hour 2", yard.meet(0, 3, 1, 4, 2), true);
        Check.same("hour 1", yard.meet(0, 3, 1, 4, 1), false);
        Check.rules(yard, "pair gate=1;");
        Check.same("gate by the gate", yard.meet(0, 3, 1, 4, 2), true);
        Check.same("gate in one field", yard.meet(0, 3, 1, 3, 2), false);
        Check.rules(yard, "pair gate=0;");
        Check.same("no gate by the gate", yard.meet(0, 3, 1, 4, 2), false);
        Check.same("no gate in one field", yard.meet(0, 3, 1, 3, 2), true);
        Check.same("no gate in one field without any", yard.meet(0, 0, 1, 0, 2), true);
    }

    private static void bothWays() {
        LiveryYard yard = twoByAGate();
        Check.rules(yard, "pair not (kind=1 and kind2=2);");
        Check.same("forbidden from the one", yard.meet(0, 3, 1, 4, 0), false);
        Check.same("forbidden from the other", yard.meet(1, 3, 0, 4, 0), false);
        Check.rules(yard, "pair 1; pair 1; pair kind=1 or kind=2; pair 1;");
        Check.same("all rules, both ways", yard.meet(0, 3, 1, 4, 0), true);
        Check.rules(yard, "pair 1; pair 1; pair kind=1 or kind=2; pair horse;");
        Check.same("the last rule, one way", yard.meet(1, 3, 0, 4, 0), false);
    }

    private static void fieldOfEach() {
        LiveryYard yard = twoByAGate();
        Check.rules(yard, "pair field=3 and horse=0 or field=4 and horse=1;");
        Check.same("each in its field", yard.meet(0, 3, 1, 4, 0), true);
        Check.same("told from the other", yard.meet(1, 4, 0, 3, 0), true);
        Check.same("each in the other's", yard.meet(0, 4, 1, 3, 0), false);
        Check.rules(yard, "pair wet<7;");
        Check.same("the other's is wet", yard.meet(0, 3, 1, 4, 0), false);
        Check.same("the one's is wet", yard.meet(0, 4, 1, 3, 0), false);
        Check.same("none is wet", yard.meet(0, 3, 1, 3, 0), true);
    }
}
