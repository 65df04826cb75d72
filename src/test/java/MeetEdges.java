/** Edges of what rules are worth, and of promises 11 and 12. */
final class MeetEdges {
    private MeetEdges() {
    }

    static void run() {
        comparisons();
        not();
        andOr();
        largeSums();
        largestNumber();
        deepest();
        placeNames();
        pairNames();
        pairGate();
        mayByRules();
        mayByRoom();
        mayByShut();
        mayMeet();
        may();
        meet();
    }

    private static LiveryYard two() {
        LiveryYard yard = new LiveryYard();
        yard.horse(0, 3);
        yard.horse(1, 4);
        yard.field(0, 1, 5);
        return yard;
    }

    /** Whether a horse may be where this e is its only rule. */
    private static boolean holds(String e) {
        LiveryYard yard = two();
        Edge.same("rules of " + e, Check.rules(yard, "place " + e + ";"), 1);
        return yard.may(0, 0, 0);
    }

    private static void worth(String e, int due) {
        Edge.same("may by " + e, holds(e), due != 0);
        Edge.same(e + " is " + due, holds("(" + e + ")=" + (due < 0 ? "0-" + -due : "" + due)), true);
    }

    private static void comparisons() {
        Edge.term("= < > give 1 or 0");
        for (int left = 0; left <= 2; left++) {
            worth(left + "=1", left == 1 ? 1 : 0);
            worth(left + "<1", left < 1 ? 1 : 0);
            worth(left + ">1", left > 1 ? 1 : 0);
            worth("0-" + left + "<0-1", left > 1 ? 1 : 0);
            worth("0-" + left + ">0-1", left < 1 ? 1 : 0);
            worth("0-" + left + "=0-1", left == 1 ? 1 : 0);
        }
    }

    private static void not() {
        Edge.term("not 1 of 0, else 0");
        worth("not 0", 1);
        worth("not 1", 0);
        worth("not 2", 0);
        worth("not(0-1)", 0);
        worth("not 999999", 0);
        worth("not not 2", 1);
        worth("not not 0", 0);
        worth("not 1-1", 1);
        worth("not 0=0", 0);
    }

    private static void andOr() {
        Edge.term("and, or 1 or 0 by both sides (each worked out)");
        int[] sides = {-1, 0, 1, 2};
        for (int left : sides) {
            for (int right : sides) {
                String l = left < 0 ? "0-1" : "" + left;
                String r = right < 0 ? "0-1" : "" + right;
                worth(l + " and " + r, left != 0 && right != 0 ? 1 : 0);
                worth(l + " or " + r, left != 0 || right != 0 ? 1 : 0);
            }
        }
        worth("2 and 2 and 2", 1);
        worth("0 or 0 or 2", 1);
        worth("1 or 0 and 0", 1);
        worth("0 and 0 or 1", 1);
    }

    /** The largest sums that 120 numbers can make, compared with each other: they stay far from any wrapping. */
    private static void largeSums() {
        Edge.term("e's are worked out with ints (wrapping)");
        String sum = "999999" + "+999999".repeat(58);
        Edge.same("like sums", holds(sum + "+999999=" + sum + "+999999"), true);
        Edge.same("less by one", holds(sum + "+999998<" + sum + "+999999"), true);
        Edge.same("not more", holds(sum + "+999998>" + sum + "+999999"), false);
        Edge.same("below 0", holds("0" + "-999999".repeat(118) + "<0"), true);
        Edge.same("below 0 is not 0", holds("0" + "-999999".repeat(119)), true);
        Edge.same("there and back", holds("0" + "-999999".repeat(59) + "+999999".repeat(59)), false);
    }

    private static void largestNumber() {
        Edge.term("NUMBERS (1 to 6 digits)");
        worth("999999", 999999);
        worth("000000", 0);
        worth("000010", 10);
        worth("100000-99999", 1);
    }

    /** Every level leaves the left sides of or, and, < and + open while the next one is worked out. */
    private static void deepest() {
        Edge.term("an e or a one within 8 others (in ( ), behind not)");
        for (int last = 0; last <= 1; last++) {
            String e = "0 or 1 and 1<1+" + last;
            for (int level = 1; level < 8; level++) {
                e = "0 or 1 and 1<1+(" + e + ")";
            }
            Edge.same("the deepest with " + last, holds(e), last == 1);
        }
        Edge.same("not, seven times, of 1", holds("not ".repeat(7) + "1"), false);
        Edge.same("not, seven times, of 0", holds("not ".repeat(7) + "0"), true);
    }

    /** Horse 0 and horse 11 have the first and the last of all that a name can tell. */
    private static LiveryYard firstAndLast() {
        LiveryYard yard = new LiveryYard();
        yard.horse(0, 0);
        yard.night();
        yard.night();
        for (int i = 0; i < 10; i++) {
            yard.horse(1, 20);
        }
        yard.horse(3, 40);
        yard.lame(11, true);
        yard.field(0, 1, 0);
        yard.field(5, 1, 9);
        yard.gate(0, 5, true);
        return yard;
    }

    private static void placeNames() {
        Edge.term("horse, kind, age, days (how many DAYS ago it came), lame (1 or 0), field, wet, hour");
        String[] names = {"horse", "kind", "age", "days", "lame", "field", "wet", "hour"};
        int[] first = {0, 0, 0, 2, 0, 0, 0, 0};
        int[] last = {11, 3, 40, 0, 1, 5, 9, 3};
        LiveryYard yard = firstAndLast();
        for (int i = 0; i < names.length; i++) {
            Check.rules(yard, "place " + names[i] + "=" + first[i] + ";");
            Edge.same(names[i] + " of the first", yard.may(0, 0, 0), true);
            Edge.same(names[i] + " of the last is another", yard.may(11, 5, 3), false);
            Check.rules(yard, "place " + names[i] + "=" + last[i] + ";");
            Edge.same(names[i] + " of the last", yard.may(11, 5, 3), true);
            Edge.same(names[i] + " of the first is another", yard.may(0, 0, 0), false);
        }
    }

    private static void pairNames() {
        Edge.term("in pair also horse2, kind2, age2, days2, lame2 (of the other one) and gate");
        String[] names = {"horse", "kind", "age", "days", "lame"};
        int[] first = {0, 0, 0, 2, 0};
        int[] last = {11, 3, 40, 0, 1};
        LiveryYard yard = firstAndLast();
        for (int i = 0; i < names.length; i++) {
            String one = names[i] + "=" + first[i] + " and " + names[i] + "2=" + last[i];
            String other = names[i] + "=" + last[i] + " and " + names[i] + "2=" + first[i];
            Check.rules(yard, "pair " + one + " or " + other + ";");
            Edge.same(names[i] + " of both, each way", yard.meet(0, 0, 11, 5, 1), true);
            Check.rules(yard, "pair " + one + ";");
            Edge.same(names[i] + " one way", yard.meet(0, 0, 11, 5, 1), false);
            Check.rules(yard, "pair " + other + ";");
            Edge.same(names[i] + " the other way", yard.meet(0, 0, 11, 5, 1), false);
        }
        for (int hour = 0; hour <= 3; hour++) {
            Check.rules(yard, "pair hour=" + hour + ";");
            Edge.same("hour " + hour, yard.meet(0, 0, 11, 5, hour), true);
            Edge.same("another hour", yard.meet(0, 0, 11, 5, 3 - hour), false);
        }
    }

    private static void pairGate() {
        Edge.term("gate (1 if they share a GATE alone, 0 in one FIELD; field and wet are the first one's)");
        LiveryYard yard = two();
        yard.gate(0, 1, true);
        Check.rules(yard, "pair gate=1;");
        Edge.same("by the gate", yard.meet(0, 0, 1, 1, 0), true);
        Edge.same("in one field that has a gate", yard.meet(0, 0, 1, 0, 0), false);
        Check.rules(yard, "pair gate=0;");
        Edge.same("by the gate", yard.meet(0, 0, 1, 1, 0), false);
        Edge.same("in one field", yard.meet(0, 0, 1, 0, 0), true);
        Check.rules(yard, "pair field=horse and (wet=5)=(field=0);");
        Edge.same("each one's own field and wet", yard.meet(0, 0, 1, 1, 0), true);
        Edge.same("told from the other", yard.meet(1, 1, 0, 0, 0), true);
        Edge.same("each in the other's", yard.meet(0, 1, 1, 0, 0), false);
    }

    private static void mayByRules() {
        Edge.term("A HORSE MAY be in a FIELD at an HOUR if all place rules are not 0 for these");
        Edge.same("no rules", two().may(0, 0, 0), true);
        Edge.same("1", holds("1"), true);
        Edge.same("0", holds("0"), false);
        Edge.same("below 0", holds("0-1"), true);
        Edge.same("2", holds("2"), true);
        for (int rule = 0; rule < 12; rule++) {
            LiveryYard yard = two();
            Check.rules(yard, "place 1;".repeat(rule) + "place hour;" + "place 1;".repeat(11 - rule));
            Edge.same("rule " + rule + " is 0", yard.may(0, 0, 0), false);
            Edge.same("all are not 0", yard.may(0, 0, 1), true);
        }
        LiveryYard yard = two();
        Check.rules(yard, "pair 0;");
        Edge.same("a pair rule", yard.may(0, 0, 0), true);
    }

    private static void mayByRoom() {
        Edge.term("the FIELD has ROOM, and is not SHUT");
        LiveryYard yard = two();
        for (int room = 0; room <= 6; room++) {
            yard.field(3, room, 0);
            Edge.same("room " + room, yard.may(0, 3, 0), room > 0);
        }
        yard.plan();
        Edge.same("the other is there", yard.may(1, 0, 0), true);
    }

    private static void mayByShut() {
        LiveryYard yard = two();
        yard.night();
        yard.night();
        for (int day = 0; day <= 4; day++) {
            yard.shut(0, day);
            Edge.same("shut up to " + day + " on day 2", yard.may(0, 0, 0), day <= 2);
        }
        yard.shut(0, 0);
        yard.lame(0, true);
        Edge.same("a lame one", yard.may(0, 0, 0), true);
    }

    private static void mayMeet() {
        Edge.term("if all pair rules are not 0 for the one with its FIELD and the other, and for the other");
        for (int rule = 0; rule < 12; rule++) {
            LiveryYard yard = two();
            Check.rules(yard, "pair 1;".repeat(rule) + "pair hour or age=3;" + "pair 1;".repeat(11 - rule));
            Edge.same("0 for the other alone", yard.meet(0, 0, 1, 0, 0), false);
            Edge.same("0 for the one alone", yard.meet(1, 0, 0, 0, 0), false);
            Edge.same("not 0 for both", yard.meet(0, 0, 1, 0, 1), true);
        }
        LiveryYard yard = two();
        Edge.same("no rules", yard.meet(0, 0, 1, 0, 0), true);
        Check.rules(yard, "pair 0-1;");
        Edge.same("below 0", yard.meet(0, 0, 1, 0, 0), true);
        Check.rules(yard, "place 0;");
        Edge.same("a place rule", yard.meet(0, 0, 1, 0, 0), true);
    }

    private static void may() {
        Edge.promise(11, "Whether a HORSE MAY be in a FIELD at an HOUR.");
        Edge.same("no horses", new LiveryYard().may(0, 0, 0), false);
        LiveryYard yard = two();
        yard.field(5, 1, 0);
        Edge.takesOnly("horse", 0, 1, horse -> yard.may(horse, 0, 0));
        Edge.takesOnly("hour", 0, 3, hour -> yard.may(0, 0, hour));
        Edge.same("field -1", yard.may(0, -1, 0), false);
        Edge.same("field 0", yard.may(0, 0, 0), true);
        Edge.same("field 5", yard.may(0, 5, 0), true);
        Edge.same("field 6", yard.may(0, 6, 0), false);
        Edge.same("all just below", yard.may(-1, -1, -1), false);
        Edge.same("all just above", yard.may(2, 6, 4), false);
        yard.field(0, 0, 0);
        Edge.same("all there is, but no room", yard.may(0, 0, 0), false);
    }

    private static void meet() {
        Edge.promise(12, "(true, too, if these share no GATE); false if one is none.");
        LiveryYard yard = two();
        yard.horse(2, 5);
        Edge.takesOnly("the other", 1, 2, other -> yard.meet(0, 0, other, 0, 0));
        Edge.takesOnly("the one", 0, 1, one -> yard.meet(one, 0, 2, 0, 0));
        Edge.takesOnly("its field", 0, 5, field -> yard.meet(0, field, 1, 3, 0));
        Edge.takesOnly("the other's field", 0, 5, field -> yard.meet(0, 3, 1, field, 0));
        Edge.takesOnly("hour", 0, 3, hour -> yard.meet(0, 0, 1, 5, hour));
        for (int horse = -1; horse <= 3; horse++) {
            Edge.same("one and the same", yard.meet(horse, 0, horse, 0, 0), false);
            Edge.same("one and the same, apart", yard.meet(horse, 0, horse, 1, 0), false);
        }
        Check.rules(yard, "pair 0;");
        for (int field = 1; field <= 5; field++) {
            Edge.same("no gate", yard.meet(0, 0, 1, field, 3), true);
            yard.gate(field, 0, true);
            Edge.same("a gate", yard.meet(0, 0, 1, field, 3), false);
        }
        Edge.same("by way of a third field", yard.meet(0, 1, 1, 2, 3), true);
        LiveryYard none = new LiveryYard();
        Edge.same("no horses", none.meet(0, 0, 1, 0, 0), false);
        none.horse(0, 0);
        Edge.same("one horse", none.meet(0, 0, 1, 0, 0), false);
    }
}
