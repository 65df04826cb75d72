/** Edges of plans and tries, and of promises 13 to 16. */
final class PlanEdges {
    private PlanEdges() {
    }

    static void run() {
        lameOnes();
        rooms();
        noMorePlaces();
        meeting();
        twelveInPairs();
        openToday();
        order();
        countedTries();
        mostTries();
        onThisDay();
        nothingTold();
        plan();
        tries();
        out();
        stuck();
    }

    private static LiveryYard yard(int horses, int... rooms) {
        LiveryYard yard = new LiveryYard();
        for (int i = 0; i < horses; i++) {
            yard.horse(0, i);
        }
        for (int field = 0; field < rooms.length; field++) {
            yard.field(field, rooms[field], 0);
        }
        return yard;
    }

    private static void lameOnes() {
        Edge.term("sends each HORSE that is not LAME out once");
        LiveryYard yard = yard(12, 3);
        Edge.same("twelve in twelve places", yard.plan(), 1);
        for (int horse = 0; horse < 12; horse++) {
            Edge.same("out " + horse, yard.out(horse), horse / 3 * 10);
        }
        for (int horse = 0; horse < 11; horse++) {
            yard.lame(horse, true);
        }
        Edge.same("one that is not lame", yard.plan(), 1);
        Edge.same("the lame one before", yard.out(10), -1);
        Edge.same("the last", yard.out(11), 0);
        yard.lame(11, true);
        Edge.same("none that is not lame", yard.plan(), 1);
        Edge.same("nowhere", yard.out(11), -1);
        Edge.same("a plan", yard.about(4), 1);
    }

    private static void rooms() {
        Edge.term("no more to a FIELD than its ROOM at any HOUR");
        for (int room = 1; room <= 6; room++) {
            LiveryYard yard = yard(room, room);
            Check.rules(yard, "place hour=2;");
            Edge.same("as many as the room " + room, yard.plan(), 1);
            Edge.same("the last of them", yard.out(room - 1), 20);
            yard.horse(0, 0);
            Edge.same("one more", yard.plan(), 0);
            Check.rules(yard, "place hour>1;");
            Edge.same("another hour", yard.plan(), 1);
            Edge.same("is for the one more", yard.out(room), 30);
        }
    }

    private static void noMorePlaces() {
        Edge.same("four at four hours", yard(4, 0, 0, 0, 0, 0, 1).plan(), 1);
        Edge.same("five at four hours", yard(5, 0, 0, 0, 0, 0, 1).plan(), 0);
        Edge.same("no room", yard(1, 0, 0, 0, 0, 0, 0).plan(), 0);
    }

    private static void meeting() {
        Edge.term("any two at one HOUR in one FIELD or by one GATE such as MAY MEET");
        LiveryYard yard = yard(2, 2, 2);
        Check.rules(yard, "place hour=0;pair 0;");
        Edge.same("in two fields without a gate", yard.plan(), 1);
        Edge.same("the second", yard.out(1), 1);
        yard.gate(0, 1, true);
        Edge.same("with a gate", yard.plan(), 0);
        Check.rules(yard, "place hour<2;pair 0;");
        Edge.same("at two hours", yard.plan(), 1);
        Edge.same("the second", yard.out(1), 10);
        Check.rules(yard, "place hour=0;pair gate;");
        Edge.same("by the gate alone", yard.plan(), 1);
        Edge.same("the second", yard.out(1), 1);
        Check.rules(yard, "place hour=0;pair not gate;");
        Edge.same("in one field alone", yard.plan(), 1);
        Edge.same("the second", yard.out(1), 0);
        Check.rules(yard, "place hour=0;pair horse;");
        Edge.same("the second asks alone", yard.plan(), 0);
        Check.rules(yard, "place hour=0;pair horse2;");
        Edge.same("the first asks alone", yard.plan(), 0);
    }

    /** Each of twelve may meet one other in a field, and by the gate whom it likes. */
    private static void twelveInPairs() {
        LiveryYard yard = yard(12, 2, 2);
        String mates = "horse=horse2+6 or horse2=horse+6";
        Check.rules(yard, "pair " + mates + ";");
        Edge.same("two and two", yard.plan(), 1);
        for (int horse = 0; horse < 12; horse++) {
            Edge.same("out " + horse, yard.out(horse), horse % 6 / 2 * 10 + horse % 2);
        }
        Edge.same("tries", yard.tries(), 2 * (1 + 2 + 7 + 8 + 13 + 14));
        yard.gate(0, 1, true);
        Check.rules(yard, "pair gate or " + mates + ";");
        Edge.same("with a gate", yard.plan(), 1);
        Edge.same("the last", yard.out(11), 21);
        Edge.same("tries", yard.tries(), 2 * (1 + 2 + 7 + 8 + 13 + 14));
        Check.rules(yard, "place horse<4 or horse>5 and horse<10;pair " + mates + ";");
        for (int horse : new int[] {4, 5, 10, 11}) {
            yard.lame(horse, true);
        }
        Edge.same("one field an hour for four pairs", yard.plan(), 1);
        for (int horse = 0; horse < 4; horse++) {
            Edge.same("out " + horse, yard.out(horse), horse * 10);
            Edge.same("its mate", yard.out(horse + 6), horse * 10);
        }
    }

    private static void openToday() {
        Edge.term("to a FIELD at an HOUR where it MAY be");
        LiveryYard yard = yard(1, 1, 1);
        Check.rules(yard, "place field=0 or days=2;");
        yard.shut(0, 2);
        Edge.same("shut on day 0", yard.plan(), 0);
        yard.night();
        Edge.same("shut on day 1", yard.plan(), 0);
        yard.night();
        Edge.same("open on day 2", yard.plan(), 1);
        Edge.same("there", yard.out(0), 0);
        yard.shut(0, 3);
        Edge.same("where it may be since it came 2 days ago", yard.plan(), 1);
        Edge.same("there", yard.out(0), 1);
        yard.shut(0, 4);
        yard.night();
        Edge.same("no more on day 3", yard.plan(), 0);
    }

    private static void order() {
        Edge.term("PLANS are in order by the places of HORSES 0, 1, .. (those that are LAME have none): by HOUR");
        LiveryYard yard = yard(1, 1, 1, 1, 1, 1, 1);
        for (int spot = 0; spot < 24; spot++) {
            int hour = spot / 6;
            int field = spot % 6;
            Check.rules(yard, "place hour>" + hour + " or hour=" + hour + " and field+1>" + field + ";");
            Edge.same("plan from " + spot + " on", yard.plan(), 1);
            Edge.same("the first place of these", yard.out(0), 10 * hour + field);
            Edge.same("tries", yard.tries(), spot + 1);
        }
        Check.rules(yard, "place hour>3;");
        Edge.same("no place", yard.plan(), 0);
        Edge.same("tries", yard.tries(), 24);
        yard = yard(2, 1, 1);
        Check.rules(yard, "place hour=0 and (horse=0 or field=0);");
        Edge.same("the second has the first field alone", yard.plan(), 1);
        Edge.same("the first gives way", yard.out(0), 1);
        Edge.same("the second", yard.out(1), 0);
    }

    private static void countedTries() {
        Edge.term("each place of each HORSE that is looked at is a TRY, also those where it MAY not be");
        LiveryYard yard = yard(1);
        Edge.same("no place", yard.plan(), 0);
        Edge.same("all are looked at", yard.tries(), 24);
        yard = yard(2, 0, 1);
        Edge.same("plan", yard.plan(), 1);
        Edge.same("those of both", yard.tries(), 2 + 8);
        yard.lame(0, true);
        yard.plan();
        Edge.same("none of a lame one", yard.tries(), 2);
        yard = yard(2, 1);
        Check.rules(yard, "place horse=0;");
        Edge.same("none for the second", yard.plan(), 0);
        Edge.same("24, and 24 for each of 4 places", yard.tries(), 24 + 4 * 24);
        Check.rules(yard, "place horse=1;");
        Edge.same("none for the first", yard.plan(), 0);
        Edge.same("the second is not looked at", yard.tries(), 24);
    }

    private static void mostTries() {
        Edge.term("20000 TRIES at most");
        found(19999, yard(7, 1, 0, 0, 0, 1, 1), "place not(horse=0 and hour+field<2);"
                + "place not(horse=5 and hour>0);place not(horse=5 and hour+field<3);place not(horse=1 and hour+field<4);");
        found(20000, yard(7, 0, 1, 0, 1, 0, 1), "place not(horse=5 and hour+field<4);"
                + "place not(horse=1 and field=3);place not(horse=5 and hour>0);");
        LiveryYard yard = yard(7, 0, 0, 1, 1, 1);
        Check.rules(yard, "place not(horse=5 and hour>0);place not(horse=1 and field=3);"
                + "place not(horse=5 and hour+field<4);");
        Edge.same("one that the 20001st would find", yard.plan(), -2);
        Edge.same("tries", yard.tries(), 20000);
        Edge.same("no plan", yard.about(4), 0);
        Edge.same("nowhere", yard.out(0), -1);
        // Each way to place the horses before one costs it 24 tries: 1, 4, 4 * 3, 4 * 3 * 2 ways, and for the last.
        yard = yard(5, 1);
        Edge.same("none, and all was tried", yard.plan(), 0);
        Edge.same("tries", yard.tries(), 24 * (1 + 4 + 12 + 24 + 24));
        yard = yard(6, 1, 0, 0, 0, 0);
        Check.rules(yard, "place horse>0 or hour<2;");
        Edge.same("five of six in four places", yard.plan(), 0);
        Edge.same("tries", yard.tries(), 24 * (1 + 2 + 6 + 12 + 12));
    }

    private static void found(int tries, LiveryYard yard, String rules) {
        Check.rules(yard, rules);
        Edge.same("found by " + tries, yard.plan(), 1);
        Edge.same("tries", yard.tries(), tries);
        Edge.same("a plan", yard.about(4), 1);
        Edge.same("the last horse is out", yard.out(6) >= 0, true);
    }

    private static void onThisDay() {
        Edge.term("The DAY's PLAN is that which was found last, on this DAY");
        LiveryYard yard = yard(1, 1);
        Edge.same("before any", yard.about(4), 0);
        Edge.same("out before any", yard.out(0), -1);
        yard.plan();
        Edge.same("today", yard.about(4), 1);
        Edge.same("out today", yard.out(0), 0);
        yard.night();
        Edge.same("on the next day", yard.about(4), 0);
        Edge.same("out on the next day", yard.out(0), -1);
        yard.plan();
        Edge.same("anew", yard.about(4), 1);
        yard = yard(12, 1);
        yard.takes(0, 0, 1);
        for (int horse = 1; horse < 12; horse++) {
            yard.lame(horse, true);
        }
        for (int night = 0; night < 166; night++) {
            yard.night();
        }
        yard.plan();
        Edge.same("a night that is refused", yard.night(), -1);
        Edge.same("leaves the day and its plan", yard.about(4), 1);
        Edge.same("and where it sends", yard.out(0), 0);
    }

    private static void nothingTold() {
        Edge.term("as long as nothing was told of HORSES, FIELDS, RULES since");
        for (int call = 0; call < 6; call++) {
            LiveryYard yard = yard(2, 2, 2);
            yard.plan();
            told(yard, call, true);
            Edge.same("no plan after " + call, yard.about(4), 0);
            Edge.same("nowhere after " + call, yard.out(0), -1);
            yard.plan();
            told(yard, call, false);
            Edge.same("a plan after one refused, " + call, yard.about(4), 1);
            Edge.same("somewhere", yard.out(0), 0);
        }
        LiveryYard yard = yard(2, 2, 2);
        yard.plan();
        yard.lot(0, 1, 1);
        yard.price(0, 1);
        yard.falls(0, 1);
        yard.feed(0, 0, 0, 0, 0);
        yard.end(0);
        yard.may(0, 0, 0);
        yard.meet(0, 0, 1, 0, 0);
        yard.stuck();
        yard.foretold(0);
        Edge.same("lots, prices, falls, a tape tell nothing of these", yard.about(4), 1);
        yard.plan();
        Edge.same("looked for anew", yard.out(1), 0);
    }

    private static void told(LiveryYard yard, int call, boolean good) {
        boolean did;
        switch (call) {
            case 0: did = yard.horse(good ? 3 : 4, 0) >= 0; break;
            case 1: did = yard.lame(good ? 1 : 2, false); break;
            case 2: did = yard.field(good ? 5 : 6, 0, 0); break;
            case 3: did = yard.shut(0, good ? 0 : -1); break;
            case 4: did = yard.gate(0, good ? 5 : 0, false); break;
            default: did = Check.rules(yard, good ? "" : "$") == 0; break;
        }
        Edge.same("told " + call, did, good);
    }

    private static void plan() {
        Edge.promise(13, "1 if it was found, 0 if there is none, -2 if there were 20000 TRIES.");
        Edge.same("no horse", yard(0).plan(), 1);
        Edge.same("one horse, one place", yard(1, 0, 0, 0, 0, 0, 1).plan(), 1);
        Edge.same("one horse, no place", yard(1).plan(), 0);
        Edge.same("eight horses in eight places", yard(8, 1, 1).plan(), 1);
        Edge.same("nine horses in eight places", yard(9, 1, 1).plan(), -2);
        LiveryYard yard = yard(9, 1, 1);
        yard.plan();
        Edge.same("none is kept", yard.about(4), 0);
        yard.lame(4, true);
        Edge.same("eight of nine", yard.plan(), 1);
        Edge.same("the last of them", yard.out(8), 31);
    }

    private static void tries() {
        Edge.promise(14, "Of the latest plan() how many TRIES.");
        LiveryYard yard = yard(0);
        Edge.same("before any", yard.tries(), 0);
        yard.plan();
        Edge.same("of no horse", yard.tries(), 0);
        yard.horse(0, 0);
        yard.plan();
        Edge.same("of one", yard.tries(), 24);
        yard.field(0, 1, 0);
        Edge.same("of the latest yet", yard.tries(), 24);
        yard.plan();
        Edge.same("of the one place", yard.tries(), 1);
        yard.night();
        Edge.same("of the latest, a day ago", yard.tries(), 1);
    }

    private static void out() {
        Edge.promise(15, "10 * HOUR + FIELD; NONE if nowhere, or there is no PLAN.");
        LiveryYard yard = yard(2, 0, 0, 0, 0, 0, 6);
        Edge.same("no plan", yard.out(0), -1);
        yard.plan();
        Edge.answersOnly("horse", 0, 1, yard::out);
        Edge.same("the last field at the first hour", yard.out(0), 5);
        Check.rules(yard, "place hour=3;");
        Edge.same("no plan", yard.out(0), -1);
        yard.plan();
        Edge.same("the last field at the last hour", yard.out(1), 35);
        yard.field(0, 6, 0);
        yard.plan();
        Edge.same("the first field at the last hour", yard.out(1), 30);
        yard.lame(0, true);
        yard.plan();
        Edge.same("a lame one", yard.out(0), -1);
        Edge.same("the other", yard.out(1), 30);
        yard.lame(0, false);
        yard.shut(0, 9);
        yard.shut(5, 9);
        Edge.same("none", yard.plan(), 0);
        Edge.same("no plan", yard.out(1), -1);
    }

    private static void stuck() {
        Edge.promise(16, "The first HORSE that is not LAME and MAY be nowhere; NONE if there is none such.");
        Edge.same("no horse", new LiveryYard().stuck(), -1);
        LiveryYard yard = yard(12, 1, 1, 1, 1, 1, 1);
        Edge.same("all may", yard.stuck(), -1);
        Check.rules(yard, "place hour=0 and field=0;");
        Edge.same("the first place alone", yard.stuck(), -1);
        Check.rules(yard, "place hour=3 and field=5;");
        Edge.same("the last place alone", yard.stuck(), -1);
        Check.rules(yard, "place hour>3;");
        Edge.same("no place", yard.stuck(), 0);
        for (int horse = 0; horse < 12; horse++) {
            Check.rules(yard, "place not horse=" + horse + ";");
            Edge.same("one alone", yard.stuck(), horse);
            yard.lame(horse, true);
            Edge.same("it is lame", yard.stuck(), -1);
            yard.lame(horse, false);
        }
        Check.rules(yard, "place horse<10;");
        Edge.same("the first of two", yard.stuck(), 10);
        yard.lame(10, true);
        Edge.same("the other", yard.stuck(), 11);
    }
}
