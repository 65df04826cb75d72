/** Promises 1 to 6: a new object, horse, lame, field, shut, gate. */
public final class HorsesFieldsTest {
    private static final int LEAST = Integer.MIN_VALUE;
    private static final int MOST = Integer.MAX_VALUE;

    public static void main(String[] args) {
        newObject();
        horse();
        lame();
        field();
        shut();
        gate();
        Check.end();
    }

    private static void newObject() {
        LiveryYard yard = new LiveryYard();
        for (int what = 0; what <= 6; what++) {
            Check.same("about(" + what + ") of a new one", yard.about(what), 0);
        }
        Check.same("tries of a new one", yard.tries(), 0);
        Check.same("fault(0) of a new one", yard.fault(0), 0);
        Check.same("fault(1) of a new one", yard.fault(1), -1);
        Check.same("stuck of a new one", yard.stuck(), -1);
        for (int bin = 0; bin < 4; bin++) {
            Check.same("lots of a new one", yard.bin(bin, 0), 0);
            Check.same("amount of a new one", yard.bin(bin, 1), 0);
            Check.same("spoilt of a new one", yard.bin(bin, 2), 0);
            Check.same("first lot of a new one", yard.bin(bin, 3), -1);
        }
        yard.horse(0, 0);
        for (int field = 0; field < 6; field++) {
            Check.same("may in a field without room", yard.may(0, field, 0), false);
            yard.field(field, 1, 0);
            Check.same("may in a field that was never shut", yard.may(0, field, 3), true);
        }
        LiveryYard other = new LiveryYard();
        Check.same("another object's horses", other.about(1), 0);
    }

    private static void horse() {
        LiveryYard yard = new LiveryYard();
        int[][] wrong = {{-1, 0}, {4, 0}, {0, -1}, {0, 41}, {LEAST, 0}, {MOST, 0}, {0, LEAST}, {0, MOST}};
        for (int[] w : wrong) {
            Check.same("horse(" + w[0] + ", " + w[1] + ")", yard.horse(w[0], w[1]), -1);
        }
        Check.same("horses after wrong ones", yard.about(1), 0);
        for (int i = 0; i < 12; i++) {
            Check.same("horse " + i, yard.horse(i % 4, i == 0 ? 40 : 0), i);
        }
        Check.same("the thirteenth", yard.horse(0, 0), -1);
        Check.same("horses", yard.about(1), 12);
        yard.field(0, 1, 0);
        Check.rules(yard, "place kind=2;");
        Check.same("kind 1", yard.may(1, 0, 0), false);
        Check.same("kind 2", yard.may(2, 0, 0), true);
        Check.rules(yard, "place age=40;");
        Check.same("age 40", yard.may(0, 0, 0), true);
        Check.same("age 0", yard.may(1, 0, 0), false);
    }

    private static void lame() {
        LiveryYard yard = new LiveryYard();
        Check.same("lame(0) of none", yard.lame(0, true), false);
        yard.horse(0, 1);
        yard.field(0, 1, 0);
        Check.same("lame(-1)", yard.lame(-1, true), false);
        Check.same("lame(1)", yard.lame(1, true), false);
        Check.same("lame(MOST)", yard.lame(MOST, true), false);
        Check.same("lame(LEAST)", yard.lame(LEAST, true), false);
        Check.rules(yard, "place not lame;");
        Check.same("may when sound", yard.may(0, 0, 0), true);
        Check.same("lame(0, true)", yard.lame(0, true), true);
        Check.same("lame(0, true) again", yard.lame(0, true), true);
        Check.same("may when lame", yard.may(0, 0, 0), false);
        Check.same("lame(0, false)", yard.lame(0, false), true);
        Check.same("may when sound again", yard.may(0, 0, 0), true);
    }

    private static void field() {
        LiveryYard yard = new LiveryYard();
        yard.horse(0, 0);
        int[][] wrong = {{-1, 1, 1}, {6, 1, 1}, {0, -1, 1}, {0, 7, 1}, {0, 1, -1}, {0, 1, 10},
            {LEAST, 1, 1}, {MOST, 1, 1}, {0, LEAST, 1}, {0, MOST, 1}, {0, 1, LEAST}, {0, 1, MOST}};
        for (int[] w : wrong) {
            Check.same("field(" + w[0] + ", " + w[1] + ", " + w[2] + ")", yard.field(w[0], w[1], w[2]), false);
        }
        Check.same("nothing was done", yard.may(0, 0, 0), false);
        Check.same("field(5, 6, 9)", yard.field(5, 6, 9), true);
        Check.same("may in 5", yard.may(0, 5, 0), true);
        Check.rules(yard, "place wet=9;");
        Check.same("wet 9", yard.may(0, 5, 0), true);
        Check.same("a wrong wet", yard.field(5, 0, 10), false);
        Check.same("room stays", yard.may(0, 5, 0), true);
        Check.same("field(5, 6, 8)", yard.field(5, 6, 8), true);
        Check.same("wet 8", yard.may(0, 5, 0), false);
        Check.same("field(5, 0, 9)", yard.field(5, 0, 9), true);
        Check.same("no room", yard.may(0, 5, 0), false);
    }

    private static void shut() {
        LiveryYard yard = new LiveryYard();
        yard.horse(0, 0);
        yard.field(0, 1, 0);
        yard.field(1, 1, 0);
        int[][] wrong = {{-1, 5}, {6, 5}, {0, -1}, {0, 100001}, {LEAST, 5}, {MOST, 5}, {0, LEAST}, {0, MOST}};
        for (int[] w : wrong) {
            Check.same("shut(" + w[0] + ", " + w[1] + ")", yard.shut(w[0], w[1]), false);
        }
        Check.same("nothing was shut", yard.may(0, 0, 0), true);
        Check.same("shut(0, 100000)", yard.shut(0, 100000), true);
        Check.same("shut for long", yard.may(0, 0, 0), false);
        Check.same("the other one", yard.may(0, 1, 0), true);
        Check.same("shut(0, 2)", yard.shut(0, 2), true);
        yard.night();
        Check.same("the day before", yard.may(0, 0, 0), false);
        yard.night();
        Check.same("that day itself", yard.may(0, 0, 0), true);
        Check.same("shut(0, 3)", yard.shut(0, 3), true);
        Check.same("shut anew", yard.may(0, 0, 0), false);
        Check.same("shut(0, 0)", yard.shut(0, 0), true);
        Check.same("open anew", yard.may(0, 0, 0), true);
    }

    private static void gate() {
        LiveryYard yard = new LiveryYard();
        yard.horse(0, 0);
        yard.horse(0, 0);
        Check.rules(yard, "pair 0;");
        int[][] wrong = {{0, 0}, {5, 5}, {-1, 0}, {0, -1}, {6, 0}, {0, 6}, {LEAST, 0}, {0, MOST}, {7, 7}};
        for (int[] w : wrong) {
            Check.same("gate(" + w[0] + ", " + w[1] + ")", yard.gate(w[0], w[1], true), false);
        }
        Check.same("no gate", yard.meet(0, 0, 1, 1, 0), true);
        Check.same("gate(0, 1, true)", yard.gate(0, 1, true), true);
        Check.same("by the gate", yard.meet(0, 0, 1, 1, 0), false);
        Check.same("by the gate from the other side", yard.meet(0, 1, 1, 0, 0), false);
        Check.same("a field without it", yard.meet(0, 0, 1, 2, 0), true);
        Check.same("gate(0, 0, false)", yard.gate(0, 0, false), false);
        Check.same("gate(1, 0, false)", yard.gate(1, 0, false), true);
        Check.same("gate gone", yard.meet(0, 0, 1, 1, 0), true);
        Check.same("one field", yard.meet(0, 1, 1, 1, 0), false);
        Check.same("gate(5, 4, true)", yard.gate(5, 4, true), true);
        Check.same("by that gate", yard.meet(0, 4, 1, 5, 0), false);
    }
}
