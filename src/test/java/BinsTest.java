/** Promises 17, 18, 21, 22, 23, 27: lot, takes, night, bin, foretold, lacked. */
public final class BinsTest {
    private static final int LEAST = Integer.MIN_VALUE;
    private static final int MOST = Integer.MAX_VALUE;

    public static void main(String[] args) {
        lot();
        takes();
        orderOfLots();
        nightOfMany();
        spoilt();
        refused();
        bin();
        foretold();
        lacked();
        Check.end();
    }

    private static void lot() {
        LiveryYard yard = new LiveryYard();
        int[][] wrong = {{-1, 1, 1}, {4, 1, 1}, {0, 0, 1}, {0, 10001, 1}, {0, 1, -1}, {0, 1, 100001}, {LEAST, 1, 1},
            {MOST, 1, 1}, {0, LEAST, 1}, {0, MOST, 1}, {0, 1, LEAST}, {0, 1, MOST}};
        for (int[] w : wrong) {
            Check.same("lot(" + w[0] + ", " + w[1] + ", " + w[2] + ")", yard.lot(w[0], w[1], w[2]), -1);
        }
        Check.same("nothing came", yard.bin(0, 0), 0);
        Check.same("lot(3, 10000, 100000)", yard.lot(3, 10000, 100000), 1);
        Check.same("lot(3, 1, 0)", yard.lot(3, 1, 0), 2);
        yard.night();
        Check.same("a day that is past", yard.lot(3, 1, 0), -1);
        Check.same("this day", yard.lot(3, 1, 1), 3);
        for (int i = 4; i <= 20; i++) {
            Check.same("lot " + i, yard.lot(3, 10000, 50), i);
        }
        Check.same("lot 21", yard.lot(3, 1, 50), -1);
        Check.same("lots", yard.bin(3, 0), 20);
        Check.same("another bin", yard.lot(2, 1, 50), 1);
        yard.night();
        Check.same("the spoilt ones went", yard.bin(3, 0), 19);
        Check.same("room for one", yard.lot(3, 1, 50), 20);
        Check.same("and for no other", yard.lot(3, 1, 50), -1);
    }

    private static void takes() {
        LiveryYard yard = new LiveryYard();
        Check.same("takes of none", yard.takes(0, 0, 1), false);
        yard.horse(0, 0);
        yard.horse(0, 0);
        Check.same("takes(0, 3, 50)", yard.takes(0, 3, 50), true);
        int[][] wrong = {{-1, 3, 1}, {2, 3, 1}, {0, -1, 1}, {0, 4, 1}, {0, 3, -1}, {0, 3, 51}, {LEAST, 3, 1},
            {MOST, 3, 1}, {0, MOST, 1}, {0, LEAST, 1}, {0, 3, MOST}, {0, 3, LEAST}};
        for (int[] w : wrong) {
            Check.same("takes(" + w[0] + ", " + w[1] + ", " + w[2] + ")", yard.takes(w[0], w[1], w[2]), false);
        }
        Check.same("takes(1, 3, 7)", yard.takes(1, 3, 7), true);
        Check.same("takes(1, 0, 2)", yard.takes(1, 0, 2), true);
        Check.same("all that is lacking", yard.night(), 59);
        Check.same("the one", yard.lacked(0), 50);
        Check.same("the other", yard.lacked(1), 9);
        Check.same("takes(0, 3, 0)", yard.takes(0, 3, 0), true);
        Check.same("lacking then", yard.night(), 9);
    }

    private static void orderOfLots() {
        LiveryYard yard = new LiveryYard();
        yard.horse(0, 0);
        yard.takes(0, 1, 10);
        yard.lot(1, 4, 9);
        yard.lot(1, 8, 5);
        yard.lot(1, 6, 9);
        yard.lot(1, 3, 7);
        Check.same("the first", yard.bin(1, 3), 5);
        Check.same("a night", yard.night(), 0);
        Check.same("8 of day 5 and 2 of day 7 went", yard.bin(1, 3), 7);
        Check.same("lots left", yard.bin(1, 0), 3);
        Check.same("amount left", yard.bin(1, 1), 11);
        yard.night();
        Check.same("the last one of 1", yard.bin(1, 1), 1);
        Check.same("is the one lot", yard.bin(1, 0), 1);
        Check.same("of day 9", yard.bin(1, 3), 9);
        Check.same("lacking", yard.night(), 9);
        Check.same("empty", yard.bin(1, 0), 0);

        yard = new LiveryYard();
        yard.horse(0, 0);
        yard.takes(0, 0, 5);
        yard.lot(0, 5, 3);
        yard.lot(0, 9, 3);
        yard.night();
        Check.same("of like ones as they came", yard.bin(0, 1), 9);
        Check.same("the used up one went", yard.bin(0, 0), 1);
    }

    private static void nightOfMany() {
        LiveryYard yard = new LiveryYard();
        for (int i = 0; i < 3; i++) {
            yard.horse(0, 0);
            yard.takes(i, 0, 10);
            yard.takes(i, 2, 5);
        }
        yard.lame(0, true);
        yard.lot(0, 15, 4);
        yard.lot(2, 12, 4);
        Check.same("lacking in all", yard.night(), 15 + 3);
        Check.same("the first had all, though lame", yard.lacked(0), 0);
        Check.same("the second a part", yard.lacked(1), 5);
        Check.same("the third the rest", yard.lacked(2), 10 + 3);
        Check.same("the day", yard.about(0), 1);
        Check.same("nights of horses", yard.about(6), 3);
    }

    private static void spoilt() {
        LiveryYard yard = new LiveryYard();
        yard.lot(0, 5, 0);
        yard.lot(0, 7, 1);
        yard.lot(0, 9, 2);
        yard.lot(1, 100, 0);
        yard.night();
        Check.same("good on its last day", yard.bin(0, 2), 0);
        yard.night();
        Check.same("spoilt on the day after", yard.bin(0, 2), 5);
        Check.same("lots", yard.bin(0, 0), 2);
        yard.night();
        Check.same("spoilt so far", yard.bin(0, 2), 12);
        Check.same("of the other", yard.bin(1, 2), 100);
        Check.same("amount", yard.bin(0, 1), 9);
        yard.horse(0, 0);
        yard.takes(0, 0, 1);
        Check.same("what is spoilt is not eaten", yard.night(), 1);
        Check.same("all spoilt", yard.bin(0, 2), 21);
        Check.same("nothing there", yard.bin(0, 3), -1);
    }

    private static void refused() {
        LiveryYard yard = new LiveryYard();
        for (int i = 0; i < 12; i++) {
            yard.horse(0, 0);
        }
        yard.field(0, 6, 0);
        yard.takes(0, 0, 1);
        yard.lot(0, 1000, 10);
        for (int i = 0; i < 166; i++) {
            Check.same("night " + i, yard.night(), i < 11 ? 0 : 1);
        }
        Check.same("kept", yard.about(6), 1992);
        Check.same("plan", yard.plan(), 1);
        yard.lot(0, 5, 166);
        Check.same("refused", yard.night(), -1);
        Check.same("kept still", yard.about(6), 1992);
        Check.same("the day", yard.about(0), 166);
        Check.same("nothing was eaten", yard.bin(0, 1), 5);
        Check.same("the plan stays", yard.about(4), 1);
        Check.same("lacked", yard.lacked(0), 155);

        yard = new LiveryYard();
        for (int i = 0; i < 10; i++) {
            yard.horse(0, 0);
        }
        for (int i = 0; i < 200; i++) {
            Check.same("night of ten", yard.night(), 0);
        }
        Check.same("2000 are kept", yard.about(6), 2000);
        Check.same("no more", yard.night(), -1);
        Check.same("no more then, too", yard.night(), -1);

        yard = new LiveryYard();
        for (int i = 0; i < 10; i++) {
            yard.horse(0, 0);
        }
        for (int i = 0; i < 199; i++) {
            yard.night();
        }
        yard.horse(0, 0);
        Check.same("1990 and 11 are too many", yard.night(), -1);
        Check.same("1990 are kept", yard.about(6), 1990);

        yard = new LiveryYard();
        for (int i = 0; i < 300; i++) {
            Check.same("a night of none", yard.night(), 0);
        }
        Check.same("none are kept", yard.about(6), 0);
        Check.same("the day goes on", yard.about(0), 300);
    }

    private static void bin() {
        LiveryYard yard = new LiveryYard();
        for (int bin : new int[] {-1, 4, LEAST, MOST}) {
            for (int what = 0; what < 4; what++) {
                Check.same("bin(" + bin + ", " + what + ")", yard.bin(bin, what), -1);
            }
        }
        for (int what : new int[] {-1, 4, LEAST, MOST}) {
            Check.same("bin(0, " + what + ")", yard.bin(0, what), -1);
        }
        yard.lot(0, 3, 8);
        yard.lot(0, 4, 6);
        Check.same("lots", yard.bin(0, 0), 2);
        Check.same("amount", yard.bin(0, 1), 7);
        Check.same("spoilt", yard.bin(0, 2), 0);
        Check.same("first", yard.bin(0, 3), 6);
        Check.same("other lots", yard.bin(1, 0), 0);
    }

    private static void foretold() {
        LiveryYard yard = new LiveryYard();
        for (int bin : new int[] {-1, 4, LEAST, MOST}) {
            Check.same("foretold(" + bin + ")", yard.foretold(bin), -1);
        }
        Check.same("none takes", yard.foretold(0), 400);
        yard.horse(0, 0);
        yard.horse(0, 0);
        yard.takes(0, 0, 2);
        yard.takes(1, 0, 1);
        Check.same("nothing there", yard.foretold(0), 0);
        Check.same("another bin", yard.foretold(3), 400);
        yard.lot(0, 10, 100);
        Check.same("3 a day of 10", yard.foretold(0), 3);
        yard.lot(0, 50, 1);
        Check.same("two days of the one, three of the other", yard.foretold(0), 5);
        Check.same("nothing was eaten", yard.bin(0, 1), 60);
        yard.lot(0, 1, 0);
        Check.same("of the first one's only 1 is taken", yard.foretold(0), 5);
        yard.night();
        Check.same("a night on", yard.foretold(0), 4);
        for (int i = 0; i < 4; i++) {
            Check.same("none lacks", yard.night(), 0);
        }
        Check.same("then one does", yard.night(), 2);

        yard = new LiveryYard();
        yard.horse(0, 0);
        yard.takes(0, 2, 25);
        yard.lot(2, 9999, 1000);
        Check.same("one less than 400", yard.foretold(2), 399);
        yard.lot(2, 1, 1000);
        Check.same("just 400", yard.foretold(2), 400);
        yard.lot(2, 10000, 1000);
        Check.same("400 at most", yard.foretold(2), 400);
        yard = new LiveryYard();
        yard.horse(0, 0);
        yard.takes(0, 2, 1);
        yard.lot(2, 10000, 398);
        Check.same("good up to day 398", yard.foretold(2), 399);
        yard.night();
        Check.same("counted from now on", yard.foretold(2), 398);
    }

    private static void lacked() {
        LiveryYard yard = new LiveryYard();
        Check.same("lacked of none", yard.lacked(0), -1);
        yard.horse(0, 0);
        for (int horse : new int[] {-1, 1, LEAST, MOST}) {
            Check.same("lacked(" + horse + ")", yard.lacked(horse), -1);
        }
        Check.same("nothing yet", yard.lacked(0), 0);
        yard.takes(0, 0, 7);
        yard.takes(0, 3, 50);
        yard.night();
        yard.lot(0, 5, 1);
        yard.night();
        Check.same("so far", yard.lacked(0), 57 + 52);
    }
}
