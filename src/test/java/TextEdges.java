/** Edges of the rules' text, its tokens, names and faults, and of promises 7 to 10. */
final class TextEdges {
    private static final String PLACE_NAMES = "horse kind age days lame field wet hour";
    private static final String PAIR_NAMES = "horse2 kind2 age2 days2 lame2 gate";
    private static final String SIGNS = ";=<>+-()";

    private TextEdges() {
    }

    static void run() {
        thousandBytes();
        emptyText();
        ruleAlone();
        chains();
        oneComparison();
        firstBytes();
        laterBytes();
        eightBytes();
        sixDigits();
        signs();
        blanks();
        longestWord();
        behindANumber();
        noNames();
        twelveRules();
        operands();
        within();
        names();
        firstFault();
        placeOfTheEnd();
        leastFault();
        cannotStand();
        noSuchName();
        feed();
        end();
        rules();
        fault();
    }

    private static boolean isWordByte(int b) {
        return b >= 'a' && b <= 'z' || b >= '0' && b <= '9';
    }

    private static boolean isBlank(int b) {
        return b == 32 || b == 10;
    }

    private static void thousandBytes() {
        Edge.term("RULES are a text of at most 1000 bytes");
        Check.good(" ".repeat(992) + "place 1;", 1);
        Check.bad(" ".repeat(993) + "place 1", 2, 1000);
        Check.bad(" ".repeat(992) + "place 1", 2, 999);
        Check.good("place 1;" + " ".repeat(992), 1);
        LiveryYard yard = new LiveryYard();
        Check.tape(yard, " ".repeat(1000));
        Edge.same("1000 bytes", yard.about(5), 1000);
        Edge.same("more", yard.feed(0, 0, 0, 0, 0), -1);
    }

    private static void emptyText() {
        Edge.term("rules = {rule}");
        Edge.same("no byte", new LiveryYard().rules(), 0);
        Check.good("", 0);
        Check.good(" ", 0);
        Check.good("\n", 0);
        Check.good("pair 1;", 1);
        Check.good("pair 1;place 1;", 2);
    }

    private static void ruleAlone() {
        Edge.term("rule = place e ; | pair e ;");
        Check.bad("place", 2, 5);
        Check.bad("place;", 2, 5);
        Check.bad("place 1", 2, 7);
        Check.good("place 1;", 1);
        Check.bad("pair", 2, 4);
        Check.bad("pair;", 2, 4);
        Check.bad("pair 1", 2, 6);
        Check.good("pair 1;", 1);
        Check.bad("place 1;;", 2, 8);
        Check.bad(";place 1;", 2, 0);
        Check.bad("1;", 2, 0);
    }

    private static void chains() {
        Edge.term("e = both {or both}. both = one {and one}.");
        Check.good("place 1 or 1 or 1;", 1);
        Check.good("place 1 and 1 and 1;", 1);
        Check.bad("place or 1;", 2, 6);
        Check.bad("place and 1;", 2, 6);
        Check.bad("place 1 or;", 2, 10);
        Check.bad("place 1 and;", 2, 11);
        Check.bad("place 1 or or 1;", 2, 11);
        Check.bad("place 1 1;", 2, 8);
        Edge.term("sum = term {( + | - ) term}.");
        Check.good("place 1+1-1+1;", 1);
        Check.bad("place +1;", 2, 6);
        Check.bad("place -1;", 2, 6);
        Check.bad("place 1+;", 2, 8);
        Check.bad("place 1-;", 2, 8);
        Check.bad("place 1-+1;", 2, 8);
        Edge.term("term = NUMBER | NAME | ( e ).");
        Check.bad("place ();", 2, 7);
        Check.bad("place (;", 2, 7);
        Check.bad("place (1;", 2, 8);
        Check.bad("place 1);", 2, 7);
        Check.bad("place (1));", 2, 9);
        Check.good("place (1 or not 1=1);", 1);
    }

    private static void oneComparison() {
        Edge.term("one = not one | sum [( = | < | > ) sum].");
        for (String first : "= < >".split(" ")) {
            Check.good("place 1" + first + "1;", 1);
            Check.bad("place 1" + first + ";", 2, 8);
            Check.bad("place " + first + "1;", 2, 6);
            for (String second : "= < >".split(" ")) {
                Check.bad("place 1" + first + "1" + second + "1;", 2, 9);
                Check.good("place 1" + first + "1 and 1" + second + "1;", 1);
                Check.bad("place 1" + first + second + "1;", 2, 8);
            }
        }
        Check.good("place not 1=1;", 1);
        Check.bad("place 1=not 1;", 2, 8);
        Check.bad("place 1 not 1;", 2, 8);
        Check.bad("place not;", 2, 9);
    }

    /** Each byte that there is where a token begins: no token, one that can't stand, or a blank. */
    private static void firstBytes() {
        Edge.term("TOKENS: words (a .. z, then a .. z, 0 .. 9; 8 bytes at most)");
        for (int b = 0; b < 256; b++) {
            String text = "" + (char) b;
            if (isBlank(b)) {
                Check.good(text, 0);
            } else {
                boolean begins = isWordByte(b) || SIGNS.indexOf(b) >= 0;
                Check.bad(text, begins ? 2 : 1, 0);
            }
        }
    }

    /** Each byte that there is directly behind a word: one more of it, or a token of its own. */
    private static void laterBytes() {
        for (int b = 0; b < 256; b++) {
            String text = "place hour" + (char) b + ";";
            if (isWordByte(b)) {
                Check.bad(text, 3, 6);
            } else if (isBlank(b)) {
                Check.good(text, 1);
            } else if (b == '(' || b == ')') {
                Check.bad(text, 2, 10);
            } else if (SIGNS.indexOf(b) >= 0) {
                Check.bad(text, 2, 11);
            } else {
                Check.bad(text, 1, 10);
            }
        }
    }

    private static void eightBytes() {
        Edge.term("8 bytes at most");
        for (int length = 1; length <= 12; length++) {
            int fault = length <= 8 ? 3 : 1;
            Check.bad("place " + "z".repeat(length) + ";", fault, 6);
            Check.bad("place a" + "9".repeat(length - 1) + ";", fault, 6);
            Check.bad("x".repeat(length) + " 1;", length <= 8 ? 2 : 1, 0);
        }
        Check.bad("place horse2345;", 1, 6);
        Check.bad("place horse234;", 3, 6);
    }

    private static void sixDigits() {
        Edge.term("NUMBERS (1 to 6 digits)");
        for (int length = 1; length <= 20; length++) {
            for (String digit : "0 9".split(" ")) {
                String text = "place " + digit.repeat(length) + ";";
                if (length <= 6) {
                    Check.good(text, 1);
                } else {
                    Check.bad(text, 1, 6);
                }
            }
        }
        Check.bad("place 4294967296;", 1, 6);
        Check.bad("place 0000001;", 1, 6);
    }

    private static void signs() {
        Edge.term("signs ; = < > + - ( ).");
        Check.good("place(1+1)-(1)<(2);pair(1)>(1);", 2);
        for (String other : "! \" # $ % & ' * , . / : ? @ [ \\ ] ^ _ ` { | } ~".split(" ")) {
            Check.bad("place 1" + other + "1;", 1, 7);
        }
        Check.bad("place 1==1;", 2, 8);
        Check.bad("place 1<=1;", 2, 8);
    }

    private static void blanks() {
        Edge.term("Blanks (32, 10) part them or not");
        for (int b = 0; b <= 33; b++) {
            String text = "place" + (char) b + "1;";
            if (isBlank(b)) {
                Check.good(text, 1);
            } else {
                Check.bad(text, 1, 5);
            }
        }
        Check.bad("place" + (char) 160 + "1;", 1, 5);
        Check.good("place(1)<(2)and(not(3))or(4);", 1);
        Check.good("\n\n place \n ( \n 1 \n ) \n < \n 2 \n ; \n\n", 1);
        Check.good("place hour+1;", 1);
        Check.bad("place ho ur;", 3, 6);
        Check.bad("place 1 2;", 2, 8);
        Check.bad("place 1\n2;", 2, 8);
        Check.bad("pla\nce 1;", 2, 0);
    }

    private static void longestWord() {
        Edge.term("a word is as long as can be");
        Check.bad("pair1;", 2, 0);
        Check.bad("pairage;", 2, 0);
        Check.bad("place notage;", 3, 6);
        Check.bad("place not1;", 3, 6);
        Check.bad("place 1 or1;", 2, 8);
        Check.bad("place 1 andage;", 2, 8);
        Check.bad("place hour3;", 3, 6);
        Check.bad("pair age22;", 3, 5);
        Check.good("place not age;", 1);
    }

    private static void behindANumber() {
        Edge.term("no letter or digit directly behind a NUMBER");
        for (String digits : "1 123456".split(" ")) {
            for (char letter = 'a'; letter <= 'z'; letter++) {
                Check.bad("place " + digits + letter + ";", 1, 6);
            }
            Check.good("place " + digits + " or 1;", 1);
            Check.bad("place " + digits + "or 1;", 1, 6);
            Check.good("place " + digits + "+1;", 1);
            Check.good("place (" + digits + ");", 1);
            Check.bad("place " + digits + "(1);", 2, 6 + digits.length());
        }
        for (char digit = '0'; digit <= '9'; digit++) {
            Check.good("place 12345" + digit + ";", 1);
            Check.bad("place 123456" + digit + ";", 1, 6);
        }
        Check.bad("place 1", 2, 7);
    }

    private static void noNames() {
        Edge.term("place pair or and not are no NAMES");
        for (String word : "place pair or and".split(" ")) {
            Check.bad("place " + word + ";", 2, 6);
            Check.bad("pair 1+" + word + ";", 2, 7);
            Check.bad("pair (" + word + ");", 2, 6);
        }
        Check.bad("pair 1+not;", 2, 7);
        Check.bad("pair 1+not 1;", 2, 7);
        for (String near : "plac places pai pairs o ors an ands no nots".split(" ")) {
            Check.bad("place " + near + ";", 3, 6);
        }
    }

    private static void twelveRules() {
        Edge.term("At most 12 rules");
        for (int count = 0; count <= 12; count++) {
            Check.good("place 1;".repeat(count), count);
        }
        Check.bad("place 1;".repeat(13), 2, 96);
        Check.bad("place 1;".repeat(12) + "\npair 1;", 2, 97);
        Check.bad("place 1;".repeat(12) + "place", 2, 96);
        Check.bad("place 1;".repeat(12) + "1", 2, 96);
        Check.good("place 1;".repeat(12) + " \n", 12);
        Check.good("pair 1;".repeat(6) + "place 1;".repeat(6), 12);
        Check.bad("pair 1;".repeat(6) + "place 1;".repeat(6) + "pair 1;", 2, 90);
    }

    private static void operands() {
        Edge.term("120 NUMBERS and NAMES in all");
        Check.good("place 1" + "+1".repeat(119) + ";", 1);
        Check.bad("place 1" + "+1".repeat(120) + ";", 2, 246);
        Check.good("place age" + "+age".repeat(119) + ";", 1);
        Check.bad("place age" + "+age".repeat(120) + ";", 2, 486);
        Check.good("place 1" + "+age+1".repeat(59) + "+age;", 1);
        Check.bad("place 1" + "+age+1".repeat(60) + ";", 2, 366);
        String ten = "pair 1" + "+1".repeat(9) + ";";
        Check.good(ten.repeat(12), 12);
        Check.bad(ten.repeat(11) + "pair 1" + "+1".repeat(10) + ";", 2, 25 * 11 + 25);
        Check.bad(ten.repeat(5) + ten.repeat(6).replace("pair 1", "pair 1+1") + "pair age+age+age+age+age;", 2,
                25 * 5 + 27 * 6 + 5 + 4 * 4);
        LiveryYard yard = new LiveryYard();
        for (int turn = 0; turn < 3; turn++) {
            Edge.same("counted anew by each rules()", Check.rules(yard, ten.repeat(12)), 12);
        }
    }

    /** Each way in which parentheses and nots can stand around a one. */
    private static void within() {
        Edge.term("an e or a one within 8 others (in ( ), behind not)");
        for (int way = 0; way < 256; way++) {
            Check.good("place " + around(way, 7, "1") + ";", 1);
            String before = around(way, 8, "");
            Check.bad("place " + around(way, 8, "1") + ";", 2, 6 + before.replace(")", "").length());
        }
        String seven = around(0, 7, "1");
        String nots = around(127, 7, "1");
        Check.good("place " + seven + "+" + seven + "<" + seven + " and " + seven + " or " + seven + ";", 1);
        Check.good("place " + nots + " and " + nots + " or " + nots + ";", 1);
        Check.good("place " + nots + "+" + "2;pair " + nots + ";", 2);
        Check.bad("place " + seven + "+" + around(0, 8, "1") + ";", 2, 6 + 15 + 1 + 8);
        Check.bad("place not 1 and " + around(255, 8, "1") + ";", 2, 16 + 32);
        Check.bad("place " + "(".repeat(20), 2, 14);
        Check.bad("place " + "not ".repeat(20), 2, 38);
        Check.bad("place " + around(127, 7, "(1)") + ";", 2, 35);
        Check.good("place " + around(63, 6, "(1)") + ";", 1);
    }

    /** So many around it: a not for a bit that is set, else parentheses; the lowest bit is the outermost. */
    private static String around(int way, int count, String inner) {
        String text = inner;
        for (int i = count - 1; i >= 0; i--) {
            text = (way >> i & 1) == 1 ? "not " + text : "(" + text + ")";
        }
        return text;
    }

    private static void names() {
        Edge.term("in pair also horse2, kind2, age2, days2, lame2 (of the other one) and gate");
        for (String name : PLACE_NAMES.split(" ")) {
            Check.good("place " + name + ";", 1);
            Check.good("pair " + name + ";", 1);
            Check.bad("place " + name.substring(1) + ";", 3, 6);
            Check.bad("place " + name.substring(0, name.length() - 1) + ";", 3, 6);
            Check.bad("place " + name + "s;", 3, 6);
            Check.bad("place " + name + "1;", 3, 6);
        }
        for (String name : PAIR_NAMES.split(" ")) {
            Check.bad("place " + name + ";", 3, 6);
            Check.good("pair " + name + ";", 1);
            Check.good("place 1;pair " + name + ";", 2);
            Check.bad("pair " + name + ";place " + name + ";", 3, 12 + name.length());
            Check.bad("pair " + name + "2;", 3, 5);
        }
        for (String none : "field2 wet2 hour2 gate2 gate1 horse1 horse02".split(" ")) {
            Check.bad("pair " + none + ";", 3, 5);
        }
    }

    private static void firstFault() {
        Edge.term("FAULTS, the first by its place (bytes from 0; the end: the text's length)");
        Check.bad("$", 1, 0);
        Check.bad(" $", 1, 1);
        Check.bad("place what $", 3, 6);
        Check.bad("place $ what", 1, 6);
        Check.bad("place 1 1 what $", 2, 8);
        Check.bad("place what 1 1 $", 3, 6);
        Check.bad("place $ 1 1", 1, 6);
        Check.bad("place 1; $", 1, 9);
        Check.bad("place 1; place gate; pair 1 1;", 3, 15);
        Check.bad("place 1; pair 1 1; place gate;", 2, 16);
    }

    private static void placeOfTheEnd() {
        Edge.term("the end: the text's length");
        Check.bad("place", 2, 5);
        Check.bad("place   ", 2, 8);
        Check.bad("place (1\n\n", 2, 10);
        Check.bad("place 1+", 2, 8);
        Check.bad("place 1;pair", 2, 12);
        Check.bad("place" + " ".repeat(995), 2, 1000);
    }

    private static void leastFault() {
        Edge.term("at one place the least: 1 no TOKEN; 2 one that can't stand there");
        Check.bad("abcdefghi 1;", 1, 0);
        Check.bad("place 1 abcdefghi;", 1, 8);
        Check.bad("place 1 1234567;", 1, 8);
        Check.bad("place 1 2x;", 1, 8);
        Check.bad("place 1 what;", 2, 8);
        Check.bad("place 1 gate;", 2, 8);
        Check.bad("what 1;", 2, 0);
        String full = "place 1" + "+1".repeat(119);
        Check.bad(full + "+what;", 2, 246);
        Check.bad(full + "+gate;", 2, 246);
        Check.bad(full + "+2x;", 1, 246);
        Check.bad(full + "+$;", 1, 246);
        Check.bad("place ((((((((what", 2, 14);
        Check.bad("place ((((((((2x", 1, 14);
        Check.bad("place " + "not ".repeat(8) + "gate;", 2, 38);
        Check.bad("place " + "not ".repeat(8) + "$;", 1, 38);
        Check.bad("pair 1;".repeat(12) + "$", 1, 84);
        Check.bad("pair 1;".repeat(12) + "abcdefghi", 1, 84);
        Check.bad("pair 1;".repeat(12) + "what", 2, 84);
    }

    private static void cannotStand() {
        Edge.term("(a 13th rule: at its word; a 121st NUMBER or NAME, what is within 8 others: at it)");
        Check.bad("pair 1;".repeat(12) + "  place 1;", 2, 86);
        Check.bad("pair 1;".repeat(12) + "\n\npair 1;", 2, 86);
        Check.bad("place 1" + "+1".repeat(119) + " +  age;", 2, 249);
        Check.bad("place 1" + "+1".repeat(119) + ";pair  2;", 2, 252);
        Check.bad("place ((((((((  1;", 2, 16);
        Check.bad("place ((((((((\n(1;", 2, 15);
        Check.bad("place ((((((((  not 1;", 2, 16);
        Check.bad("place " + "not ".repeat(8) + " not 1;", 2, 39);
    }

    private static void noSuchName() {
        Edge.term("3 a NAME that there is not there");
        Check.bad("place gate;", 3, 6);
        Check.good("pair gate;", 1);
        Check.bad("place 1+what;", 3, 8);
        Check.bad("pair not(what);", 3, 9);
        Check.bad("place 1" + "+1".repeat(118) + "+what;", 3, 244);
        Check.bad("place (((((((what", 3, 13);
    }

    private static int feedBlanks(LiveryYard yard) {
        return yard.feed(0x20202020, 0x20202020, 0x20202020, 0x20202020, 0x20202020);
    }

    private static void feed() {
        Edge.promise(7, "NONE, and nothing comes, if there would be more than 1000.");
        LiveryYard yard = new LiveryYard();
        for (int i = 1; i <= 50; i++) {
            Edge.same("feed " + i, feedBlanks(yard), 20 * i);
        }
        Edge.same("of 1000", feedBlanks(yard), -1);
        for (int before = 979; before <= 1000; before++) {
            LiveryYard other = new LiveryYard();
            Check.tape(other, " ".repeat(before));
            boolean fits = before <= 980;
            Edge.same("of " + before, feedBlanks(other), fits ? before + 20 : -1);
            Edge.same("bytes then", other.about(5), fits ? before + 20 : before);
        }
        Edge.nothing("too much", y -> Check.tape(y, " ".repeat(967)), y -> Edge.same("feed", feedBlanks(y), -1));
        Edge.promise(7, "Twenty bytes come behind those on the TAPE, the highest of each first");
        for (int place = 0; place < 20; place++) {
            for (int bad : new int[] {1, 0x7f, 0x80, 0xff}) {
                int[] five = {0x20202020, 0x20202020, 0x20202020, 0x20202020, 0x20202020};
                int shift = 24 - place % 4 * 8;
                five[place / 4] = 0x20202020 & ~(255 << shift) | bad << shift;
                LiveryYard other = new LiveryYard();
                feedBlanks(other);
                Edge.same("feed", other.feed(five[0], five[1], five[2], five[3], five[4]), 40);
                Edge.same("rules", other.rules(), -1);
                Edge.same("fault", other.fault(0), 1);
                Edge.same("place", other.fault(1), 20 + place);
            }
        }
    }

    private static void end() {
        Edge.promise(8, "NONE, doing nothing, if it has not so many, or n is below 0.");
        Edge.same("0 of none", new LiveryYard().end(0), 0);
        Edge.same("1 of none", new LiveryYard().end(1), -1);
        Edge.same("-1 of none", new LiveryYard().end(-1), -1);
        for (int n : new int[] {Edge.LEAST, -1, 0, 1, 19, 20, 21, 1000, Edge.MOST}) {
            LiveryYard yard = new LiveryYard();
            feedBlanks(yard);
            boolean can = n >= 0 && n <= 20;
            Edge.same("end(" + n + ")", yard.end(n), can ? n : -1);
            Edge.same("bytes then", yard.about(5), can ? n : 20);
        }
        LiveryYard full = new LiveryYard();
        Check.tape(full, " ".repeat(1000));
        Edge.same("1001 of 1000", full.end(1001), -1);
        Edge.same("1000 of 1000", full.end(1000), 1000);
        Edge.same("999 of 1000", full.end(999), 999);
        Edge.same("1000 of 999", full.end(1000), -1);
        Edge.nothing("end(-1)", y -> y.end(-1));
        Edge.nothing("end(15)", y -> Edge.same("15 of 14", y.end(15), -1));
        Edge.nothing("end(14)", y -> Edge.same("14 of 14", y.end(14), 14));
    }

    private static void rules() {
        Edge.promise(9, "The TAPE (empty then) is the RULES: how many; NONE: a FAULT (the RULES stay).");
        LiveryYard yard = new LiveryYard();
        yard.horse(0, 0);
        yard.field(0, 1, 0);
        Edge.same("an empty tape", yard.rules(), 0);
        Edge.same("twelve", Check.rules(yard, "place hour;".repeat(12)), 12);
        Edge.same("bytes then", yard.about(5), 0);
        Edge.same("they hold", yard.may(0, 0, 0), false);
        Edge.same("thirteen", Check.rules(yard, "place 1;".repeat(13)), -1);
        Edge.same("bytes then", yard.about(5), 0);
        Edge.same("twelve stay", yard.about(2), 12);
        Edge.same("and hold", yard.may(0, 0, 0), false);
        Edge.same("a fault at the end", Check.rules(yard, "place 1; pair"), -1);
        Edge.same("they hold yet", yard.may(0, 0, 0), false);
        Edge.same("a fault at the beginning", Check.rules(yard, "$"), -1);
        Edge.same("twelve stay yet", yard.about(2), 12);
        Edge.same("no text", yard.rules(), 0);
        Edge.same("no rules", yard.about(2), 0);
        Edge.same("nothing is forbidden", yard.may(0, 0, 0), true);
    }

    private static void fault() {
        Edge.promise(10, "its FAULT (0), 1: its place (NONE). NONE for another what.");
        LiveryYard yard = new LiveryYard();
        Edge.same("before any rules()", yard.fault(0), 0);
        Edge.same("its place", yard.fault(1), -1);
        Check.rules(yard, "$");
        Edge.answersOnly("what", 0, 1, what -> yard.fault(what));
        Edge.same("a fault", yard.fault(0), 1);
        Edge.same("its place", yard.fault(1), 0);
        yard.rules();
        Edge.same("then none", yard.fault(0), 0);
        Edge.same("no place", yard.fault(1), -1);
        Edge.same("another what", yard.fault(2), -1);
        Edge.same("another what", yard.fault(-1), -1);
    }
}
