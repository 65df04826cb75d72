/** Edges of bins, lots and nights, and of promises 17, 18, 21, 22, 23 and 27. */
final class BinEdges {
    private BinEdges() {
    }

    static void run() {
        bins();
        twentyLots();
        amounts();
        lastDay();
        taken();
        spoilt();
        lotsInOrder();
        lacking();
        oneDayMore();
        foretoldDays();
        lot();
        takes();
        night();
        bin();
        foretold();
        lacked();
    }

    /** One horse that takes so much of bin 0. */
    private static LiveryYard eater(int amount) {
        LiveryYard yard = new LiveryYard();
        yard.horse(0, 0);
        yard.takes(0, 0, amount);
        return yard;
    }

    private static void bins() {
        Edge.term("BINS 0 .. 3");
        Edge.answersOnly("lot", 0, 3, bin -> new LiveryYard().lot(bin, 1, 1));
        Edge.answersOnly("bin", 0, 3, bin -> new LiveryYard().bin(bin, 0));
        Edge.answersOnly("foretold", 0, 3, bin -> new LiveryYard().foretold(bin));
        Edge.takesOnly("takes", 0, 3, bin -> eater(0).takes(0, bin, 1));
        for (int bin = 0; bin <= 3; bin++) {
            LiveryYard yard = new LiveryYard();
            yard.lot(bin, 7, 5);
            for (int other = 0; other <= 3; other++) {
                Edge.same("each has its own lots", yard.bin(other, 1), other == bin ? 7 : 0);
            }
        }
    }

    private static void twentyLots() {
        Edge.term("have LOTS, 20 at most each");
        LiveryYard yard = new LiveryYard();
        for (int i = 1; i <= 20; i++) {
            for (int bin = 0; bin <= 3; bin++) {
                Edge.same("lot " + i, yard.lot(bin, 10000, i % 7), i);
            }
        }
        for (int bin = 0; bin <= 3; bin++) {
            Edge.same("the 21st", yard.lot(bin, 1, 3), -1);
            Edge.same("lots", yard.bin(bin, 0), 20);
            Edge.same("amount", yard.bin(bin, 1), 200000);
        }
        yard = eater(3);
        for (int i = 1; i <= 20; i++) {
            yard.lot(0, 3, 50 - i);
        }
        Edge.same("full", yard.lot(0, 3, 50), -1);
        yard.night();
        Edge.same("room where one was used up", yard.lot(0, 3, 50), 20);
        Edge.same("full again", yard.lot(0, 3, 50), -1);
    }

    private static void amounts() {
        Edge.term("an amount (1 .. 10000)");
        Edge.answersOnly("amount", 1, 10000, amount -> new LiveryYard().lot(0, amount, 1));
        LiveryYard yard = new LiveryYard();
        yard.lot(0, 1, 1);
        Edge.same("the least", yard.bin(0, 1), 1);
        yard.lot(0, 10000, 1);
        Edge.same("with the most", yard.bin(0, 1), 10001);
    }

    private static void lastDay() {
        Edge.term("the last DAY on which it is good");
        LiveryYard yard = eater(4);
        yard.lot(0, 100, 1);
        Edge.same("on day 0", yard.night(), 0);
        Edge.same("on its last day", yard.night(), 0);
        Edge.same("on the day after", yard.night(), 4);
        Edge.same("what was left is spoilt", yard.bin(0, 2), 92);
    }

    private static void taken() {
        Edge.term("A HORSE takes of each BIN so much a DAY (0 .. 50, 0 at first)");
        LiveryYard yard = new LiveryYard();
        yard.horse(0, 0);
        Edge.same("nothing at first", yard.night(), 0);
        for (int bin = 0; bin <= 3; bin++) {
            int b = bin;
            Edge.takesOnly("amount", 0, 50, amount -> eater(0).takes(0, b, amount));
            yard.takes(0, bin, 50);
            Edge.same("the most of each", yard.night(), 50 * (bin + 1));
        }
        for (int bin = 0; bin <= 3; bin++) {
            yard.takes(0, bin, 0);
        }
        Edge.same("nothing again", yard.night(), 0);
        yard.takes(0, 3, 1);
        Edge.same("the least", yard.night(), 1);
    }

    private static void spoilt() {
        Edge.term("LOTS whose last DAY is before the DAY are SPOILT and go");
        for (int last = 3; last <= 6; last++) {
            LiveryYard yard = new LiveryYard();
            yard.lot(2, 8, last);
            for (int night = 0; night < 5; night++) {
                yard.night();
            }
            Edge.same("before the night of day 5, last day " + last, yard.bin(2, 2), last < 4 ? 8 : 0);
            yard.night();
            Edge.same("in the night of day 5, last day " + last, yard.bin(2, 2), last < 5 ? 8 : 0);
            Edge.same("lots", yard.bin(2, 0), last < 5 ? 0 : 1);
        }
        LiveryYard yard = eater(1);
        yard.lot(0, 10000, 0);
        for (int i = 1; i < 20; i++) {
            yard.lot(0, 10000, i < 19 ? 0 : 2);
        }
        yard.night();
        Edge.same("none spoilt", yard.bin(0, 2), 0);
        yard.night();
        Edge.same("all but one spoilt", yard.bin(0, 2), 189999);
        Edge.same("one lot", yard.bin(0, 0), 1);
        Edge.same("of which was taken", yard.bin(0, 1), 9999);
    }

    private static void lotsInOrder() {
        Edge.term("of the LOTS in order of their last DAY (of like ones as they came; those that are used up go)");
        for (int amount = 4; amount <= 6; amount++) {
            LiveryYard yard = eater(amount);
            yard.lot(0, 5, 3);
            yard.lot(0, 9, 3);
            yard.night();
            Edge.same("lots when " + amount + " of 5 and 9 were taken", yard.bin(0, 0), amount < 5 ? 2 : 1);
            Edge.same("amount", yard.bin(0, 1), 14 - amount);
        }
        LiveryYard yard = eater(5);
        yard.lot(0, 9, 3);
        yard.lot(0, 5, 3);
        yard.night();
        Edge.same("lots when 5 of 9 and 5 were taken", yard.bin(0, 0), 2);
        yard = eater(5);
        yard.lot(0, 5, 4);
        yard.lot(0, 5, 3);
        Edge.same("the earlier one is first", yard.bin(0, 3), 3);
        yard.night();
        Edge.same("then the later one", yard.bin(0, 3), 4);
        yard.night();
        Edge.same("then none", yard.bin(0, 0), 0);
        yard = eater(50);
        for (int i = 0; i < 20; i++) {
            yard.lot(0, i < 10 ? 3 : 2, 90 - i);
        }
        Edge.same("just all of twenty", yard.night(), 0);
        Edge.same("all are used up", yard.bin(0, 0), 0);
        Edge.same("none is spoilt", yard.bin(0, 2), 0);
    }

    private static void lacking() {
        Edge.term("what is not there is LACKING");
        for (int there = 9; there <= 11; there++) {
            LiveryYard yard = eater(10);
            yard.lot(0, there, 3);
            Edge.same("lacking of " + there, yard.night(), there < 10 ? 1 : 0);
            Edge.same("lacked", yard.lacked(0), there < 10 ? 1 : 0);
            Edge.same("left", yard.bin(0, 1), there > 10 ? 1 : 0);
        }
        Edge.term("then HORSE by HORSE, BIN by BIN");
        LiveryYard yard = new LiveryYard();
        for (int horse = 0; horse < 12; horse++) {
            yard.horse(0, 0);
            yard.takes(horse, 1, 10);
        }
        yard.lot(1, 115, 9);
        Edge.same("in all", yard.night(), 5);
        Edge.same("the last but one", yard.lacked(10), 0);
        Edge.same("the last", yard.lacked(11), 5);
        yard.lot(1, 9, 9);
        Edge.same("in all", yard.night(), 111);
        Edge.same("the first", yard.lacked(0), 1);
        Edge.same("the second", yard.lacked(1), 10);
    }

    private static void oneDayMore() {
        Edge.term("then the DAY is one more");
        LiveryYard yard = eater(1);
        for (int day = 0; day < 400; day++) {
            Edge.same("day", yard.about(0), day);
            yard.night();
        }
    }

    private static void foretoldDays() {
        Edge.term("how many NIGHTS from now on none lacks of it, if nothing comes or changes: 400 at most");
        for (int there = 398; there <= 402; there++) {
            LiveryYard yard = eater(1);
            yard.lot(0, there, 5000);
            Edge.same("1 a day of " + there, yard.foretold(0), Math.min(there, 400));
        }
        for (int last = 398; last <= 401; last++) {
            LiveryYard yard = eater(1);
            yard.lot(0, 10000, last);
            Edge.same("good up to " + last, yard.foretold(0), Math.min(last + 1, 400));
        }
        LiveryYard yard = eater(10);
        Edge.same("nothing there", yard.foretold(0), 0);
        yard.lot(0, 9, 9);
        Edge.same("9 of 10", yard.foretold(0), 0);
        yard.lot(0, 1, 9);
        Edge.same("just 10", yard.foretold(0), 1);
        yard.lot(0, 9, 9);
        Edge.same("19", yard.foretold(0), 1);
        yard.lot(0, 1, 0);
        Edge.same("20, of which 1 is taken first", yard.foretold(0), 2);
        yard.lot(0, 100, 0);
        Edge.same("100 for today alone", yard.foretold(0), 2);
        yard.horse(0, 0);
        Edge.same("one that takes nothing of it", yard.foretold(0), 2);
        yard.takes(1, 0, 50);
        Edge.same("60 a day: 101 of today, then 19", yard.foretold(0), 1);
        foretoldIsKept();
    }

    /** What was foretold comes true, night by night, also past lots that spoil half eaten. */
    private static void foretoldIsKept() {
        LiveryYard yard = eater(7);
        for (int i = 0; i < 20; i++) {
            yard.lot(0, 5 + i, i * i / 9);
        }
        int nights = yard.foretold(0);
        Edge.same("some nights", nights > 5 && nights < 400, true);
        for (int night = 0; night < nights; night++) {
            Edge.same("foretold", yard.foretold(0), nights - night);
            Edge.same("none lacks", yard.night(), 0);
        }
        Edge.same("foretold at last", yard.foretold(0), 0);
        Edge.same("one lacks", yard.night() > 0, true);
    }

    private static void lot() {
        Edge.promise(17, "NONE, doing nothing, if it can't be (last below the DAY, above 100000), or there are 20.");
        Edge.answersOnly("last on day 0", 0, 100000, last -> new LiveryYard().lot(0, 1, last));
        Edge.answersOnly("last on day 3", 3, 100000, last -> onDayThree().lot(0, 1, last));
        int[][] wrong = {{-1, 1, 5}, {4, 1, 5}, {0, 0, 5}, {0, 10001, 5}, {0, -1, 5}, {0, 1, 0}, {0, 1, 100001}};
        for (int[] w : wrong) {
            String call = "lot(" + w[0] + ", " + w[1] + ", " + w[2] + ")";
            Edge.nothing(call, yard -> Edge.same(call, yard.lot(w[0], w[1], w[2]), -1));
        }
        for (int bin = 0; bin <= 3; bin++) {
            int b = bin;
            Edge.nothing("a 21st lot", yard -> fill(yard, b), yard -> Edge.same("21st", yard.lot(b, 5, 5), -1));
        }
        LiveryYard yard = new LiveryYard();
        Edge.same("the last of all", yard.lot(3, 10000, 100000), 1);
        Edge.same("the first of all", yard.lot(3, 1, 0), 2);
        Edge.same("the first is taken first", yard.bin(3, 3), 0);
    }

    private static LiveryYard onDayThree() {
        LiveryYard yard = new LiveryYard();
        for (int night = 0; night < 3; night++) {
            yard.night();
        }
        return yard;
    }

    private static void fill(LiveryYard yard, int bin) {
        for (int lots = yard.bin(bin, 0); lots < 20; lots++) {
            yard.lot(bin, 2, 4);
        }
        Edge.same("full", yard.bin(bin, 0), 20);
    }

    private static void takes() {
        Edge.promise(18, "true; false, doing nothing, if it can't be.");
        Edge.same("no horse", new LiveryYard().takes(0, 0, 0), false);
        Edge.takesOnly("horse", 0, 0, horse -> eater(1).takes(horse, 0, 2));
        LiveryYard two = eater(1);
        two.horse(0, 0);
        Edge.takesOnly("horse of two", 0, 1, horse -> two.takes(horse, 3, 50));
        int[][] wrong = {{-1, 0, 9}, {3, 0, 9}, {0, -1, 9}, {0, 4, 9}, {1, -1, 8}, {0, 0, -1}, {0, 0, 51}};
        for (int[] w : wrong) {
            String call = "takes(" + w[0] + ", " + w[1] + ", " + w[2] + ")";
            Edge.nothing(call, yard -> Edge.same(call, yard.takes(w[0], w[1], w[2]), false));
        }
    }

    private static void night() {
        Edge.promise(21, "NONE, doing nothing, if it is refused (2000 NIGHTS of HORSES would be passed).");
        nightsOf(12, 166, 1992);
        nightsOf(10, 200, 2000);
        nightsOf(8, 250, 2000);
        nightsOf(7, 285, 1995);
        LiveryYard yard = nights(10, 199);
        yard.horse(0, 0);
        Edge.same("1990 and 11", yard.night(), -1);
        Edge.same("kept", yard.about(6), 1990);
        yard = nights(9, 221);
        yard.horse(0, 0);
        Edge.same("1989 and 10", yard.night(), 0);
        Edge.same("kept", yard.about(6), 1999);
        Edge.same("1999 and 10", yard.night(), -1);
        yard = nights(0, 400);
        Edge.same("nights of no horse are never refused", yard.night(), 0);
        Edge.same("none is kept", yard.about(6), 0);
        Edge.nothing("a night that is refused", BinEdges::passAllNights, y -> Edge.same("night", y.night(), -1));
    }

    private static LiveryYard nights(int horses, int nights) {
        LiveryYard yard = new LiveryYard();
        for (int i = 0; i < horses; i++) {
            yard.horse(0, 0);
        }
        for (int i = 0; i < nights; i++) {
            Edge.same("night", yard.night(), 0);
        }
        return yard;
    }

    private static void nightsOf(int horses, int most, int kept) {
        LiveryYard yard = nights(horses, most);
        Edge.same("kept", yard.about(6), kept);
        Edge.same("one more of " + horses, yard.night(), -1);
        Edge.same("kept then", yard.about(6), kept);
        Edge.same("the day", yard.about(0), most);
    }

    /** From one night of two and then twelve horses on, up to where no more of them can be kept. */
    private static void passAllNights(LiveryYard yard) {
        for (int i = 0; i < 9; i++) {
            yard.horse(0, 0);
        }
        for (int i = 0; i < 166; i++) {
            Edge.same("a night", yard.night() >= 0, true);
        }
        Edge.same("kept", yard.about(6), 1994);
        yard.lot(0, 30, 167);
        yard.lot(1, 30, 168);
        yard.plan();
    }

    private static void bin() {
        Edge.promise(22, "3: the last DAY of the LOT that is taken first (NONE). NONE if there is none such.");
        LiveryYard yard = new LiveryYard();
        Edge.same("no lot", yard.bin(0, 3), -1);
        yard.lot(0, 6, 0);
        Edge.same("a lot of day 0", yard.bin(0, 3), 0);
        Edge.answersOnly("what", 0, 3, what -> yard.bin(0, what));
        Edge.answersOnly("bin", 0, 3, bin -> yard.bin(bin, 1));
        Edge.same("both just below", yard.bin(-1, -1), -1);
        Edge.same("both just above", yard.bin(4, 4), -1);
        yard.lot(3, 1, 100000);
        Edge.same("the last day there is", yard.bin(3, 3), 100000);
        yard.lot(3, 2, 99999);
        Edge.same("a day before it", yard.bin(3, 3), 99999);
        Edge.same("lots", yard.bin(3, 0), 2);
        Edge.same("amount", yard.bin(3, 1), 3);
        yard.night();
        Edge.same("not yet spoilt", yard.bin(0, 2), 0);
        Edge.same("there yet", yard.bin(0, 1), 6);
        yard.night();
        Edge.same("spoilt", yard.bin(0, 2), 6);
        Edge.same("nothing there", yard.bin(0, 1), 0);
        Edge.same("no lot again", yard.bin(0, 3), -1);
    }

    private static void foretold() {
        Edge.promise(23, "FORETOLD; NONE if there is no such BIN.");
        LiveryYard yard = new LiveryYard();
        for (int bin = 0; bin <= 3; bin++) {
            Edge.same("none takes of it", yard.foretold(bin), 400);
        }
        Edge.same("bin -1", yard.foretold(-1), -1);
        Edge.same("bin 4", yard.foretold(4), -1);
        yard.horse(0, 0);
        yard.takes(0, 3, 1);
        Edge.same("the last bin", yard.foretold(3), 0);
        Edge.same("the one before", yard.foretold(2), 400);
        Edge.nothing("foretold", y -> {
            y.foretold(-1);
            y.foretold(0);
            y.foretold(3);
            y.foretold(4);
        });
    }

    private static void lacked() {
        Edge.promise(27, "How much a HORSE has LACKED so far; NONE if there is none such.");
        Edge.same("no horse", new LiveryYard().lacked(0), -1);
        LiveryYard yard = eater(50);
        yard.horse(0, 0);
        Edge.answersOnly("horse", 0, 1, yard::lacked);
        Edge.same("nothing yet", yard.lacked(0), 0);
        for (int bin = 0; bin <= 3; bin++) {
            yard.takes(0, bin, 50);
        }
        for (int night = 1; night <= 400; night++) {
            yard.night();
            Edge.same("the most so far", yard.lacked(0), 200 * night);
        }
        Edge.same("one that takes nothing", yard.lacked(1), 0);
    }
}
