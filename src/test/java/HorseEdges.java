/** Edges of horses, fields, hours and days, and of promises 1 to 6. */
final class HorseEdges {
    private HorseEdges() {
    }

    static void run() {
        twelveHorses();
        kinds();
        ages();
        dayItCame();
        fields();
        rooms();
        wets();
        shutUpToADay();
        gatesAtFirst();
        hours();
        dayAtFirst();
        calls();
        newObject();
        horse();
        lame();
        field();
        shut();
        gate();
    }

    private static LiveryYard withHorses(int count) {
        LiveryYard yard = new LiveryYard();
        for (int i = 0; i < count; i++) {
            yard.horse(0, 0);
        }
        return yard;
    }

    private static void twelveHorses() {
        Edge.term("HORSES are numbered from 0 on, 12 at most");
        LiveryYard yard = new LiveryYard();
        for (int i = 0; i < 12; i++) {
            Edge.same("horse before it came", yard.lame(i, false), false);
            Edge.same("horse", yard.horse(i % 4, i), i);
            Edge.same("horse when it has come", yard.lame(i, false), true);
        }
        Edge.same("the 13th", yard.horse(0, 0), -1);
        Edge.same("the 13th is none", yard.lame(12, false), false);
        Edge.same("horses", yard.about(1), 12);
    }

    private static void kinds() {
        Edge.term("a KIND (0 GELDING, 1 MARE, 2 STALLION, 3 FOAL)");
        Edge.answersOnly("kind", 0, 3, kind -> new LiveryYard().horse(kind, 5));
        for (int kind = 0; kind <= 3; kind++) {
            LiveryYard yard = new LiveryYard();
            yard.horse(kind, 0);
            yard.field(0, 1, 0);
            Check.rules(yard, "place kind=" + kind + ";");
            Edge.same("kind " + kind + " is kept", yard.may(0, 0, 0), true);
        }
    }

    private static void ages() {
        Edge.term("an AGE (0 .. 40)");
        Edge.answersOnly("age", 0, 40, age -> new LiveryYard().horse(3, age));
        for (int age = 0; age <= 40; age += 40) {
            LiveryYard yard = new LiveryYard();
            yard.horse(0, age);
            yard.field(0, 1, 0);
            Check.rules(yard, "place age=" + age + ";");
            Edge.same("age " + age + " is kept", yard.may(0, 0, 0), true);
        }
    }

    private static void dayItCame() {
        Edge.term("the DAY on which it came");
        LiveryYard yard = withHorses(1);
        yard.field(0, 1, 0);
        Check.rules(yard, "place days=0;");
        Edge.same("0 days ago on the day itself", yard.may(0, 0, 0), true);
        yard.night();
        yard.horse(0, 0);
        Edge.same("no more on the next", yard.may(0, 0, 0), false);
        Edge.same("but for one that came then", yard.may(1, 0, 0), true);
        Check.rules(yard, "place days=1;");
        Edge.same("1 day ago", yard.may(0, 0, 0), true);
    }

    private static void fields() {
        Edge.term("FIELDS 0 .. 5");
        Edge.takesOnly("field", 0, 5, field -> new LiveryYard().field(field, 1, 1));
        Edge.takesOnly("shut", 0, 5, field -> new LiveryYard().shut(field, 1));
        Edge.takesOnly("gate from", 0, 5, field -> new LiveryYard().gate(field, 2, true));
        Edge.takesOnly("gate to", 0, 5, field -> new LiveryYard().gate(3, field, true));
        LiveryYard yard = withHorses(2);
        for (int field = 0; field <= 5; field++) {
            yard.field(field, 1, 0);
        }
        Edge.takesOnly("may", 0, 5, field -> yard.may(0, field, 0));
        Edge.takesOnly("meet from", 0, 5, field -> yard.meet(0, field, 1, 0, 0));
        Edge.takesOnly("meet to", 0, 5, field -> yard.meet(0, 0, 1, field, 0));
    }

    private static void rooms() {
        Edge.term("ROOM (how many at one HOUR: 0 .. 6, 0 at first)");
        Edge.takesOnly("room", 0, 6, room -> new LiveryYard().field(2, room, 1));
        LiveryYard yard = withHorses(1);
        for (int field = 0; field <= 5; field++) {
            Edge.same("room at first, field " + field, yard.may(0, field, 0), false);
            yard.field(field, 1, 0);
            Edge.same("room 1", yard.may(0, field, 0), true);
            yard.field(field, 0, 0);
            Edge.same("room 0", yard.may(0, field, 0), false);
        }
    }

    private static void wets() {
        Edge.term("WET (0 .. 9, 0 at first)");
        Edge.takesOnly("wet", 0, 9, wet -> new LiveryYard().field(2, 1, wet));
        LiveryYard yard = withHorses(2);
        Check.rules(yard, "pair wet=0;");
        for (int field = 0; field <= 5; field++) {
            Edge.same("wet at first, field " + field, yard.meet(0, field, 1, field, 0), true);
        }
        yard.field(5, 1, 9);
        Edge.same("wet 9 is not 0", yard.meet(0, 5, 1, 5, 0), false);
        Check.rules(yard, "pair wet=9;");
        Edge.same("wet 9 is kept", yard.meet(0, 5, 1, 5, 0), true);
    }

    private static void shutUpToADay() {
        Edge.term("are SHUT up to a day, not that day itself (0 at first)");
        LiveryYard yard = withHorses(1);
        for (int field = 0; field <= 5; field++) {
            yard.field(field, 1, 0);
            Edge.same("open at first", yard.may(0, field, 0), true);
        }
        Edge.same("shut up to 2", yard.shut(5, 2), true);
        Edge.same("on day 0", yard.may(0, 5, 0), false);
        yard.night();
        Edge.same("on day 1", yard.may(0, 5, 0), false);
        yard.night();
        Edge.same("on day 2", yard.may(0, 5, 0), true);
        yard.shut(5, 2);
        Edge.same("shut up to now", yard.may(0, 5, 0), true);
        yard.shut(5, 3);
        Edge.same("shut up to the next day", yard.may(0, 5, 0), false);
        Edge.same("another field", yard.may(0, 4, 0), true);
    }

    private static void gatesAtFirst() {
        Edge.term("of two FIELDS it can be told that they share a GATE");
        for (int a = 0; a <= 5; a++) {
            for (int b = 0; b <= 5; b++) {
                if (a != b) {
                    onlyGate(a, b);
                }
            }
        }
    }

    private static void onlyGate(int a, int b) {
        LiveryYard yard = withHorses(2);
        Check.rules(yard, "pair 0;");
        Edge.same("no gate at first", yard.meet(0, a, 1, b, 0), true);
        Edge.same("gate", yard.gate(a, b, true), true);
        for (int one = 0; one <= 5; one++) {
            for (int other = 0; other <= 5; other++) {
                boolean by = one == other || one == a && other == b || one == b && other == a;
                Edge.same("meet by " + a + ", " + b, yard.meet(0, one, 1, other, 0), !by);
            }
        }
        Edge.same("told from the other side", yard.gate(b, a, false), true);
        Edge.same("no gate any more", yard.meet(0, a, 1, b, 0), true);
    }

    private static void hours() {
        Edge.term("HOURS are 0 .. 3");
        LiveryYard yard = withHorses(2);
        yard.field(0, 1, 0);
        Edge.takesOnly("may", 0, 3, hour -> yard.may(0, 0, hour));
        Edge.takesOnly("meet in one field", 0, 3, hour -> yard.meet(0, 0, 1, 0, hour));
        Edge.takesOnly("meet without a gate", 0, 3, hour -> yard.meet(0, 0, 1, 1, hour));
    }

    private static void dayAtFirst() {
        Edge.term("The DAY is 0 at first");
        LiveryYard yard = new LiveryYard();
        Edge.same("the day", yard.about(0), 0);
        yard.night();
        Edge.same("the next", yard.about(0), 1);
    }

    private static void calls() {
        Edge.term("An object is used for at most 512 calls after it has been made");
        LiveryYard yard = new LiveryYard();
        yard.horse(0, 0);
        yard.price(0, 2);
        for (int night = 0; night < 508; night++) {
            yard.night();
        }
        Edge.same("call 511", yard.about(0), 508);
        Edge.same("call 512", yard.bill(0, 0, 507, 507), 1016);
    }

    private static void newObject() {
        Edge.promise(1, "No HORSES, no RULES, empty BINS.");
        LiveryYard yard = new LiveryYard();
        for (int what = 0; what <= 6; what++) {
            Edge.same("about(" + what + ")", yard.about(what), 0);
        }
        for (int bin = 0; bin <= 3; bin++) {
            Edge.same("lots", yard.bin(bin, 0), 0);
            Edge.same("amount", yard.bin(bin, 1), 0);
            Edge.same("spoilt", yard.bin(bin, 2), 0);
            Edge.same("the first lot", yard.bin(bin, 3), -1);
        }
        Edge.same("no horse", yard.lacked(0), -1);
        Edge.same("a plan of no horses", yard.plan(), 1);
        Edge.same("a night of no horses", yard.night(), 0);
    }

    private static void horse() {
        Edge.promise(2, "NONE, doing nothing, if it can't be, or there are 12.");
        Edge.same("the last kind and age", new LiveryYard().horse(3, 40), 0);
        Edge.same("the first kind and age", new LiveryYard().horse(0, 0), 0);
        Edge.nothing("kind -1", yard -> Edge.same("kind -1", yard.horse(-1, 5), -1));
        Edge.nothing("kind 4", yard -> Edge.same("kind 4", yard.horse(4, 5), -1));
        Edge.nothing("age -1", yard -> Edge.same("age -1", yard.horse(0, -1), -1));
        Edge.nothing("age 41", yard -> Edge.same("age 41", yard.horse(0, 41), -1));
        Edge.nothing("the 13th", HorseEdges::fillUpToTwelve, yard -> Edge.same("13th", yard.horse(0, 0), -1));
        LiveryYard eleven = withHorses(11);
        Edge.same("the 12th", eleven.horse(0, 0), 11);
        Edge.same("the 13th", eleven.horse(0, 0), -1);
    }

    private static void fillUpToTwelve(LiveryYard yard) {
        for (int i = 0; i < 9; i++) {
            yard.horse(0, 0);
        }
        Edge.same("a plan of twelve", yard.plan(), 1);
    }

    private static void lame() {
        Edge.promise(3, "true; false if there is none such.");
        Edge.same("of no horses", new LiveryYard().lame(0, true), false);
        LiveryYard yard = withHorses(3);
        Edge.takesOnly("lame", 0, 2, horse -> yard.lame(horse, true));
        Edge.takesOnly("not lame", 0, 2, horse -> yard.lame(horse, false));
        Edge.nothing("lame(-1)", y -> y.lame(-1, true));
        Edge.nothing("lame(3)", y -> y.lame(3, true));
        LiveryYard full = withHorses(12);
        Edge.takesOnly("lame of twelve", 0, 11, horse -> full.lame(horse, true));
    }

    private static void field() {
        Edge.promise(4, "true; false, doing nothing, if one can't be.");
        Edge.same("all the first", new LiveryYard().field(0, 0, 0), true);
        Edge.same("all the last", new LiveryYard().field(5, 6, 9), true);
        int[][] wrong = {{-1, 5, 1}, {6, 5, 1}, {0, -1, 1}, {0, 7, 1}, {0, 5, -1}, {0, 5, 10}};
        for (int[] w : wrong) {
            String call = "field(" + w[0] + ", " + w[1] + ", " + w[2] + ")";
            Edge.nothing(call, yard -> Edge.same(call, yard.field(w[0], w[1], w[2]), false));
        }
    }

    private static void shut() {
        Edge.promise(5, "A FIELD is SHUT up to a day (0 .. 100000): likewise.");
        Edge.takesOnly("day", 0, 100000, day -> new LiveryYard().shut(0, day));
        int[][] wrong = {{-1, 9}, {6, 9}, {0, -1}, {0, 100001}};
        for (int[] w : wrong) {
            String call = "shut(" + w[0] + ", " + w[1] + ")";
            Edge.nothing(call, yard -> Edge.same(call, yard.shut(w[0], w[1]), false));
        }
        LiveryYard yard = withHorses(1);
        yard.field(0, 1, 0);
        yard.shut(0, 100000);
        Edge.same("shut up to the last day", yard.may(0, 0, 0), false);
        yard.shut(0, 0);
        Edge.same("shut up to the first day", yard.may(0, 0, 0), true);
    }

    private static void gate() {
        Edge.promise(6, "Two different FIELDS share a GATE, or not: likewise.");
        for (int field = -1; field <= 6; field++) {
            Edge.same("a field and itself, " + field, new LiveryYard().gate(field, field, true), false);
        }
        Edge.same("the first and the last", new LiveryYard().gate(0, 5, true), true);
        int[][] wrong = {{0, 0}, {3, 3}, {-1, 0}, {0, -1}, {6, 5}, {5, 6}};
        for (int[] w : wrong) {
            String call = "gate(" + w[0] + ", " + w[1] + ")";
            Edge.nothing(call, yard -> Edge.same(call, yard.gate(w[0], w[1], true), false));
            Edge.nothing("no " + call, yard -> Edge.same(call, yard.gate(w[0], w[1], false), false));
        }
    }
}
