/** Promises 13 to 16: plan, tries, out, stuck. */
public final class PlanTest {
    public static void main(String[] args) {
        nobody();
        order();
        room();
        lameOnes();
        goesBack();
        byGates();
        none();
        givenUp();
        foundLate();
        lastTry();
        planOfTheDay();
        stuck();
        Check.end();
    }

    private static LiveryYard yard(int horses, int... rooms) {
        LiveryYard yard = new LiveryYard();
        for (int i = 0; i < horses; i++) {
            yard.horse(0, i);
        }
        for (int field = 0; field < rooms.length; field++) {
            yard.field(field, rooms[field], 0);
        }
        return yard;
    }

    private static void planned(LiveryYard yard, int tries, int... places) {
        Check.same("plan", yard.plan(), 1);
        Check.same("tries", yard.tries(), tries);
        Check.same("about(4)", yard.about(4), 1);
        for (int horse = 0; horse < places.length; horse++) {
            Check.same("out(" + horse + ")", yard.out(horse), places[horse]);
        }
        Check.same("out of none", yard.out(places.length), -1);
        Check.same("out(-1)", yard.out(-1), -1);
        Check.same("out(LEAST)", yard.out(Integer.MIN_VALUE), -1);
        Check.same("out(MOST)", yard.out(Integer.MAX_VALUE), -1);
    }

    private static void nobody() {
        planned(yard(0), 0);
        LiveryYard yard = yard(2);
        yard.lame(0, true);
        yard.lame(1, true);
        planned(yard, 0, -1, -1);
    }

    private static void order() {
        planned(yard(1, 0, 0, 0, 0, 0, 1), 6, 5);
        planned(yard(4, 0, 1, 0, 1), 2 + 4 + 8 + 10, 1, 3, 11, 13);
        LiveryYard yard = yard(1, 1, 1, 1, 1, 1, 1);
        Check.rules(yard, "place field=5 and hour=3;");
        planned(yard, 24, 35);
    }

    private static void room() {
        planned(yard(7, 6), 6 + 7, 0, 0, 0, 0, 0, 0, 10);
        planned(yard(3, 2, 1), 1 + 1 + 2, 0, 0, 1);
    }

    private static void lameOnes() {
        LiveryYard yard = yard(3, 1);
        yard.lame(1, true);
        planned(yard, 1 + 7, 0, -1, 10);
        yard.lame(0, true);
        planned(yard, 1, -1, -1, 0);
        yard.lame(1, false);
        planned(yard, 1 + 7, -1, 0, 10);
    }

    private static void goesBack() {
        LiveryYard yard = yard(2, 1);
        Check.rules(yard, "place not (horse=1 and hour>0);");
        // 0 at hour 0, 1 nowhere (24); then 0 at hour 1 (its tries 2 .. 7), 1 at hour 0.
        planned(yard, 1 + 24 + 6 + 1, 10, 0);
    }

    private static void byGates() {
        LiveryYard yard = yard(3, 3, 3, 3);
        Check.rules(yard, "pair gate=0 and 0;");
        planned(yard, 1 + 2 + 3, 0, 1, 2);
        yard.gate(1, 0, true);
        planned(yard, 1 + 3 + 7, 0, 2, 10);
        yard.gate(1, 2, true);
        planned(yard, 1 + 3 + 7, 0, 2, 10);
        Check.rules(yard, "pair gate=1;");
        planned(yard, 1 + 2 + 3, 0, 1, 2);
        Check.rules(yard, "pair hour>0;");
        planned(yard, 1 + 3 + 7, 0, 2, 10);
        Check.rules(yard, "pair not (horse=2 and horse2=0);");
        planned(yard, 1 + 1 + 3, 0, 0, 2);
    }

    private static void none() {
        LiveryYard yard = yard(1);
        Check.same("no field", yard.plan(), 0);
        Check.same("tries", yard.tries(), 24);
        Check.same("about(4)", yard.about(4), 0);
        Check.same("out", yard.out(0), -1);
        yard = yard(2, 1);
        Check.rules(yard, "place hour=1;");
        Check.same("one place for two", yard.plan(), 0);
        Check.same("tries", yard.tries(), 48);
    }

    private static void givenUp() {
        LiveryYard yard = yard(12, 1, 1);
        Check.same("too many", yard.plan(), -2);
        Check.same("tries", yard.tries(), 20000);
        Check.same("about(4)", yard.about(4), 0);
        Check.same("out", yard.out(0), -1);
        for (int horse = 8; horse < 12; horse++) {
            yard.lame(horse, true);
        }
        Check.same("eight of them", yard.plan(), 1);
        Check.same("tries are of the latest", yard.tries(), 1 + 2 + 7 + 8 + 13 + 14 + 19 + 20);
    }

    /** The last horse has one place alone, which the first one gives up only when all else was tried. */
    private static void foundLate() {
        LiveryYard yard = yard(5, 1, 1);
        Check.rules(yard, "place horse<4 or hour+field=0;");
        Check.same("found late", yard.plan(), 1);
        Check.same("below the most", yard.tries() < 20000, true);
        Check.same("the last is first", yard.out(4), 0);
        Check.same("the others behind", yard.out(0), 1);
    }

    /** The most tries: a plan that the last of them finds is found, one that would need one more is not. */
    private static void lastTry() {
        LiveryYard yard = yard(7, 1, 0, 0, 0, 1, 1);
        Check.rules(yard, "place not(horse=0 and hour+field<2);place not(horse=5 and hour>0);"
                + "place not(horse=5 and hour+field<3);place not(horse=1 and hour+field<4);");
        Check.same("found by 19999", yard.plan(), 1);
        Check.same("tries", yard.tries(), 19999);
        yard = yard(7, 0, 1, 0, 1, 0, 1);
        Check.rules(yard, "place not(horse=5 and hour+field<4);place not(horse=1 and field=3);"
                + "place not(horse=5 and hour>0);");
        Check.same("found by 20000", yard.plan(), 1);
        Check.same("tries", yard.tries(), 20000);
        Check.same("about(4)", yard.about(4), 1);
        yard = yard(7, 0, 0, 1, 1, 1);
        Check.rules(yard, "place not(horse=5 and hour>0);place not(horse=1 and field=3);"
                + "place not(horse=5 and hour+field<4);");
        Check.same("would be found by 20001", yard.plan(), -2);
        Check.same("tries", yard.tries(), 20000);
        Check.same("about(4)", yard.about(4), 0);
    }

    private static void planOfTheDay() {
        LiveryYard yard = yard(2, 2, 2);
        planned(yard, 2, 0, 0);
        planned(yard, 2, 0, 0);
        yard.horse(4, 0);
        yard.lame(2, true);
        yard.field(0, 7, 0);
        yard.shut(0, -1);
        yard.gate(1, 1, true);
        yard.feed(0, 0, 0, 0, 0);
        Check.same("a fault", yard.rules(), -1);
        yard.may(0, 0, 0);
        yard.stuck();
        yard.lot(0, 5, 5);
        yard.takes(0, 0, 5);
        yard.price(0, 5);
        yard.falls(0, 5);
        yard.work(0, 0, 0);
        Check.same("none of these told", yard.about(4), 1);
        Check.same("the plan stays", yard.out(1), 0);

        lost(yard, yard.lame(0, false));
        lost(yard, yard.field(0, 2, 0));
        lost(yard, yard.shut(0, 0));
        lost(yard, yard.gate(0, 1, false));
        lost(yard, yard.rules() == 0);
        lost(yard, yard.night() == 0);
        lost(yard, yard.horse(0, 0) == 2);
        Check.same("plan for three", yard.plan(), 1);
        Check.same("the third", yard.out(2), 1);
    }

    private static void lost(LiveryYard yard, boolean told) {
        Check.same("told", told, true);
        Check.same("no plan", yard.about(4), 0);
        Check.same("nowhere", yard.out(0), -1);
        Check.same("tries stay", yard.tries() > 0, true);
        Check.same("plan anew", yard.plan(), 1);
        Check.same("there is one", yard.about(4), 1);
    }

    private static void stuck() {
        LiveryYard yard = yard(3);
        Check.same("no field", yard.stuck(), 0);
        yard.lame(0, true);
        Check.same("the first is lame", yard.stuck(), 1);
        yard.field(5, 1, 0);
        Check.same("none", yard.stuck(), -1);
        Check.rules(yard, "place hour=3 and horse<2;");
        Check.same("the last", yard.stuck(), 2);
        yard.lame(2, true);
        Check.same("it is lame", yard.stuck(), -1);
        yard.shut(5, 1);
        Check.same("shut", yard.stuck(), 1);
        yard.night();
        Check.same("open", yard.stuck(), -1);
    }
}
