/** Promises 7 to 10: feed, end, rules, fault. */
public final class TapeRulesTest {
    public static void main(String[] args) {
        feed();
        end();
        rules();
        fault();
        tokens();
        words();
        grammar();
        names();
        limits();
        firstFault();
        Check.end();
    }

    private static int feedBlanks(LiveryYard yard) {
        int blanks = 0x20202020;
        return yard.feed(blanks, blanks, blanks, blanks, blanks);
    }

    private static void feed() {
        LiveryYard yard = new LiveryYard();
        for (int i = 1; i <= 50; i++) {
            Check.same("feed " + i, feedBlanks(yard), 20 * i);
        }
        Check.same("feed 51", feedBlanks(yard), -1);
        Check.same("bytes", yard.about(5), 1000);
        Check.same("end(980)", yard.end(980), 980);
        Check.same("feed to 1000", feedBlanks(yard), 1000);
        yard.end(981);
        Check.same("feed to 1001", feedBlanks(yard), -1);
        Check.same("nothing came", yard.about(5), 981);
        Check.same("blanks are no rules", yard.rules(), 0);

        yard = new LiveryYard();
        yard.feed(0x706c6163, 0x65203120, 0x3d20310a, 0x3b706169, 0x7220313b);
        Check.same("the highest first, each int in turn", yard.rules(), 2);
        yard.feed(0x2020ff20, 0, 0, 0, 0);
        yard.rules();
        Check.same("byte 255", yard.fault(0), 1);
        Check.same("its place", yard.fault(1), 2);
    }

    private static void end() {
        LiveryYard yard = new LiveryYard();
        Check.same("end(0) of nothing", yard.end(0), 0);
        Check.same("end(1) of nothing", yard.end(1), -1);
        feedBlanks(yard);
        Check.same("end(21)", yard.end(21), -1);
        Check.same("end(-1)", yard.end(-1), -1);
        Check.same("end(LEAST)", yard.end(Integer.MIN_VALUE), -1);
        Check.same("end(MOST)", yard.end(Integer.MAX_VALUE), -1);
        Check.same("nothing was done", yard.about(5), 20);
        Check.same("end(20)", yard.end(20), 20);
        Check.same("end(7)", yard.end(7), 7);
        Check.same("bytes", yard.about(5), 7);
        Check.same("end(8)", yard.end(8), -1);
        Check.tape(yard, "x");
        yard.rules();
        Check.same("what came behind stands at 7", yard.fault(1), 7);
    }

    private static void rules() {
        LiveryYard yard = new LiveryYard();
        yard.horse(0, 5);
        yard.field(0, 1, 0);
        Check.same("no text", yard.rules(), 0);
        Check.same("two rules", Check.rules(yard, "place age<9; pair 1;"), 2);
        Check.same("the tape is empty", yard.about(5), 0);
        Check.same("rules held", yard.about(2), 2);
        Check.same("a fault", Check.rules(yard, "place 0; place 0; place"), -1);
        Check.same("the tape is empty then, too", yard.about(5), 0);
        Check.same("the rules stay", yard.about(2), 2);
        Check.same("and hold", yard.may(0, 0, 0), true);
        Check.same("another text", Check.rules(yard, "place age>9;"), 1);
        Check.same("is what holds", yard.may(0, 0, 0), false);
        Check.same("no text again", yard.rules(), 0);
        Check.same("no rules", yard.about(2), 0);
        Check.same("nothing forbids", yard.may(0, 0, 0), true);
    }

    private static void fault() {
        LiveryYard yard = new LiveryYard();
        Check.rules(yard, "pair what;");
        Check.same("fault(0)", yard.fault(0), 3);
        Check.same("fault(1)", yard.fault(1), 5);
        Check.same("fault(2)", yard.fault(2), -1);
        Check.same("fault(-1)", yard.fault(-1), -1);
        Check.same("fault(LEAST)", yard.fault(Integer.MIN_VALUE), -1);
        Check.tape(yard, "$");
        Check.same("of the latest rules()", yard.fault(0), 3);
        yard.end(0);
        yard.rules();
        Check.same("fault(0) after good rules", yard.fault(0), 0);
        Check.same("fault(1) after good rules", yard.fault(1), -1);
    }

    private static void tokens() {
        Check.good("place(1)=2;", 1);
        Check.good("\n place\n1 ;\n", 1);
        Check.good("place not(1)or(2)and(3);pair 1;", 2);
        Check.good("place 0;place 000000;place 999999;", 3);
        Check.bad("place 1234567;", 1, 6);
        Check.bad("place 1a;", 1, 6);
        Check.bad("place 123456x;", 1, 6);
        Check.bad("place 1or 2;", 1, 6);
        Check.bad("place 1 or2;", 2, 8);
        Check.bad("place 1A;", 1, 7);
        Check.bad("place hourA;", 1, 10);
        Check.bad("place hour\t;", 1, 10);
        Check.bad("Place 1;", 1, 0);
        Check.bad("place 1,2;", 1, 7);
        Check.bad("place 1 \r;", 1, 8);
        Check.bad("place 1_;", 1, 7);
        Check.bad("place 1*2;", 1, 7);
        Check.bad("place \u0000;", 1, 6);
        Check.bad("place \u00e9;", 1, 6);
        Check.bad("place abcdefgh;", 3, 6);
        Check.bad("place zazaz;", 3, 6);
        Check.bad("place a0z9;", 3, 6);
        Check.bad("place 1z;", 1, 6);
        Check.bad("place `;", 1, 6);
        Check.bad("place {;", 1, 6);
        Check.bad("place /;", 1, 6);
        Check.bad("place :;", 1, 6);
        Check.bad("place abcdefghi;", 1, 6);
        Check.bad("place a2345678;", 3, 6);
        Check.bad("place a23456789;", 1, 6);
        Check.bad("placeplac 1;", 1, 0);
    }

    private static void words() {
        Check.bad("place1;", 2, 0);
        Check.bad("places 1;", 2, 0);
        Check.bad("plac 1;", 2, 0);
        Check.bad("place place;", 2, 6);
        Check.bad("place pair;", 2, 6);
        Check.bad("place or;", 2, 6);
        Check.bad("place and;", 2, 6);
        Check.bad("place not;", 2, 9);
        Check.bad("place not1;", 3, 6);
        Check.bad("place nothour;", 1 + 2, 6);
        Check.bad("place hor;", 3, 6);
        Check.bad("place horsee;", 3, 6);
        Check.bad("pair horse3;", 3, 5);
        Check.bad("pair field2;", 3, 5);
        Check.bad("pair wet2;", 3, 5);
        Check.bad("pair hour2;", 3, 5);
        Check.bad("pair gate2;", 3, 5);
    }

    private static void grammar() {
        Check.bad("place", 2, 5);
        Check.bad("place ", 2, 6);
        Check.bad("place ;", 2, 6);
        Check.bad("place 1", 2, 7);
        Check.bad("place 1 \n", 2, 9);
        Check.bad("place 1 2;", 2, 8);
        Check.bad("place 1 hour;", 2, 8);
        Check.bad("place 1 what;", 2, 8);
        Check.bad("place 1;;", 2, 8);
        Check.bad("1;", 2, 0);
        Check.bad(";", 2, 0);
        Check.bad("hour", 2, 0);
        Check.bad("not 1;", 2, 0);
        Check.bad("place 1=2=3;", 2, 9);
        Check.bad("place 1<2>3;", 2, 9);
        Check.good("place (1=2)=3;", 1);
        Check.good("place 1+2-3=4-5+6;", 1);
        Check.bad("place -1;", 2, 6);
        Check.bad("place 1--1;", 2, 8);
        Check.bad("place 1+;", 2, 8);
        Check.bad("place =1;", 2, 6);
        Check.bad("place 1=;", 2, 8);
        Check.bad("place 1+not 1;", 2, 8);
        Check.bad("place 1=not 1;", 2, 8);
        Check.good("place 1+(not 1);", 1);
        Check.good("place 1 and not 1 or not 2 and 3;", 1);
        Check.bad("place 1 and or 2;", 2, 12);
        Check.bad("place 1 or;", 2, 10);
        Check.bad("place (1;", 2, 8);
        Check.bad("place 1);", 2, 7);
        Check.bad("place ();", 2, 7);
        Check.bad("place (1", 2, 8);
        Check.bad("place (1)(2);", 2, 9);
        Check.bad("place 1 pair 1;", 2, 8);
    }

    private static void names() {
        String both = "horse kind age days lame field wet hour";
        for (String name : both.split(" ")) {
            Check.good("place " + name + ";", 1);
            Check.good("pair " + name + ";", 1);
        }
        for (String name : "horse2 kind2 age2 days2 lame2 gate".split(" ")) {
            Check.bad("place " + name + ";", 3, 6);
            Check.good("pair " + name + ";", 1);
            Check.bad("pair " + name + ";place 1+" + name + ";", 3, 14 + name.length());
        }
    }

    private static void limits() {
        Check.good("pair 1;".repeat(12), 12);
        Check.bad("pair 1;".repeat(13), 2, 84);
        Check.bad("pair 1;".repeat(12) + " place", 2, 85);
        Check.bad("pair 1;".repeat(12) + "$", 1, 84);
        Check.bad("pair 1;".repeat(12) + ";", 2, 84);

        String sum = "place 1" + "+1".repeat(119);
        Check.good(sum + ";", 1);
        Check.bad(sum + "+1;", 2, 246);
        Check.bad(sum + "+hour;", 2, 246);
        Check.bad(sum + "+what;", 2, 246);
        Check.bad(sum + "+1234567;", 1, 246);
        Check.bad(sum + ";place 1;", 2, 252);
        Check.bad("place 1" + "+age".repeat(119) + "+1;", 2, 484);

        Check.good("place " + "(".repeat(7) + "1" + ")".repeat(7) + ";", 1);
        Check.bad("place " + "(".repeat(8) + "1" + ")".repeat(8) + ";", 2, 14);
        Check.bad("place " + "(".repeat(8) + "what", 2, 14);
        Check.bad("place " + "(".repeat(8) + "$", 1, 14);
        Check.bad("place " + "(".repeat(9) + "1", 2, 14);
        Check.good("place " + "not ".repeat(7) + "1;", 1);
        Check.bad("place " + "not ".repeat(8) + "1;", 2, 38);
        Check.bad("place " + "not ".repeat(9) + "1;", 2, 38);
        Check.good("place not(not(not(not 1)));", 1);
        Check.good("place not(not(not(1+(1=1))));", 1);
        Check.bad("place not(not(not(not(1))));", 2, 22);
        Check.good("place (1)+(1)=(1)-(1)or(1)and(1)or(1)and(1)or(1);", 1);
        Check.good("place not 1 and not 1 and not 1 or not 1 or not 1 or not 1 or not 1 or not 1;", 1);

        String blanks = " ".repeat(992);
        Check.good(blanks + "place 1;", 1);
        Check.bad(blanks + "place 1 ", 2, 1000);
        Check.bad(blanks + "place $;", 1, 998);
    }

    private static void firstFault() {
        Check.bad("place what $;", 3, 6);
        Check.bad("place $ what;", 1, 6);
        Check.bad("place 1;what", 2, 8);
        Check.bad("place 1 $ what", 1, 8);
        Check.bad("place (gate", 3, 7);
        Check.bad("place 1=2=gate;", 2, 9);
    }
}
