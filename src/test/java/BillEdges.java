/** Edges of prices, works and bills, and of promises 19, 20, 24, 25, 26 and 28. */
final class BillEdges {
    private static final int LEAST = Edge.LEAST;
    private static final int MOST = Edge.MOST;

    private BillEdges() {
    }

    static void run() {
        prices();
        pricesAsTheyAre();
        sorts();
        workDays();
        knownDay();
        fallsAfter();
        latestDay();
        billDays();
        billAsKnown();
        worksAsKnown();
        allKept();
        price();
        falls();
        work();
        due();
        bill();
        about();
    }

    private static LiveryYard one() {
        LiveryYard yard = new LiveryYard();
        yard.horse(0, 0);
        return yard;
    }

    private static void nights(LiveryYard yard, int count) {
        for (int i = 0; i < count; i++) {
            yard.night();
        }
    }

    /** Everything that can cost something happens to a horse once, each thing at its own price. */
    private static int billAt(int what, int price) {
        LiveryYard yard = one();
        for (int bin = 0; bin <= 3; bin++) {
            yard.lot(bin, 9, 9);
            yard.takes(0, bin, 1);
        }
        if (what >= 0) {
            yard.price(what, price);
        }
        for (int sort = 0; sort <= 2; sort++) {
            yard.work(0, sort, 0);
        }
        yard.night();
        return yard.bill(0, 0, 0, 0);
    }

    private static void prices() {
        Edge.term("PRICES (0 .. 1000, 0 at first): of a DAY (0), of a unit out of each BIN (1 .. 4), of WORKS");
        Edge.same("all at first", billAt(-1, 0), 0);
        for (int what = 0; what <= 7; what++) {
            int w = what;
            Edge.takesOnly("price", 0, 1000, price -> new LiveryYard().price(w, price));
            Edge.same("the most of " + what, billAt(what, 1000), 1000);
            Edge.same("the least of " + what, billAt(what, 1), 1);
            Edge.same("none of " + what, billAt(what, 0), 0);
        }
        Edge.takesOnly("what", 0, 7, what -> new LiveryYard().price(what, 1));
    }

    private static void pricesAsTheyAre() {
        Edge.term("A NIGHT's bill of a HORSE is the DAY's PRICE and what it took by its PRICES, as they are then");
        LiveryYard yard = one();
        yard.takes(0, 0, 10);
        yard.lot(0, 7, 5);
        yard.price(0, 1);
        yard.price(1, 100);
        yard.night();
        yard.price(0, 5);
        yard.price(1, 1000);
        Edge.same("what it took, not what it lacked", yard.bill(0, 0, 0, 0), 701);
        yard.night();
        Edge.same("it took nothing", yard.bill(0, 1, 1, 1), 5);
        yard.price(0, 0);
        Edge.same("prices as they were", yard.bill(0, 0, 1, 1), 706);
    }

    private static void sorts() {
        Edge.term("A WORK of a SORT 0 .. 2 on a HORSE");
        Edge.answersOnly("work", 0, 2, sort -> one().work(0, sort, 0));
        Edge.takesOnly("falls", 0, 2, sort -> one().falls(sort, 1));
        LiveryYard yard = one();
        for (int sort = 0; sort <= 2; sort++) {
            yard.falls(sort, 10 + sort);
        }
        Edge.answersOnly("due", 0, 2, sort -> yard.due(0, sort));
        for (int sort = 0; sort <= 2; sort++) {
            Edge.same("each by itself", yard.due(0, sort), 10 + sort);
        }
    }

    private static void workDays() {
        Edge.term("is done on a DAY not after now, not before it came");
        Edge.answersOnly("on day 0", 0, 0, day -> one().work(0, 0, day));
        Edge.answersOnly("came on 2, now 5", 2, 5, day -> cameOnTwo().work(0, 0, day));
        LiveryYard yard = cameOnTwo();
        yard.horse(0, 0);
        Edge.same("one that came today, yesterday", yard.work(1, 0, 4), -1);
        Edge.same("one that came today, today", yard.work(1, 0, 5), 1);
        Edge.same("one that came today, tomorrow", yard.work(1, 0, 6), -1);
    }

    /** A horse that came on day 2; now it is day 5. */
    private static LiveryYard cameOnTwo() {
        LiveryYard yard = new LiveryYard();
        nights(yard, 2);
        yard.horse(0, 0);
        nights(yard, 3);
        return yard;
    }

    private static void knownDay() {
        Edge.term("and known on the DAY on which it is told; it costs the SORT's PRICE as it is then");
        LiveryYard yard = one();
        yard.price(5, 10);
        nights(yard, 3);
        yard.price(5, 1000);
        yard.work(0, 0, 1);
        yard.price(5, 0);
        Edge.same("as known before it was told", yard.bill(0, 1, 1, 2), 0);
        Edge.same("as known when it was told", yard.bill(0, 1, 1, 3), 1000);
        Edge.same("as known later", yard.bill(0, 1, 1, 4), 1000);
    }

    private static void fallsAfter() {
        Edge.term("A SORT can be told to fall due after so many DAYS (1 .. 400; 0: never, at first)");
        Edge.takesOnly("days", 0, 400, days -> new LiveryYard().falls(0, days));
        for (int sort = 0; sort <= 2; sort++) {
            LiveryYard yard = one();
            Edge.same("never at first", yard.due(0, sort), -1);
            yard.falls(sort, 1);
            Edge.same("after 1", yard.due(0, sort), 1);
            yard.falls(sort, 400);
            Edge.same("after 400", yard.due(0, sort), 400);
            yard.falls(sort, 0);
            Edge.same("never", yard.due(0, sort), -1);
        }
    }

    private static void latestDay() {
        Edge.term("so many after the latest DAY of such a WORK on the HORSE (or on which it came)");
        LiveryYard yard = cameOnTwo();
        for (int sort = 0; sort <= 2; sort++) {
            yard.falls(sort, 1);
            Edge.same("each sort from the day it came", yard.due(0, sort), 3);
        }
        yard.horse(0, 0);
        yard.falls(1, 400);
        Edge.same("from the day it came", yard.due(0, 1), 402);
        Edge.same("the one that came today", yard.due(1, 1), 405);
        yard.work(0, 1, 2);
        Edge.same("a work on that day", yard.due(0, 1), 402);
        yard.work(0, 1, 4);
        Edge.same("a later one", yard.due(0, 1), 404);
        yard.work(0, 1, 3);
        Edge.same("an earlier one, told later", yard.due(0, 1), 404);
        yard.work(0, 0, 5);
        yard.work(0, 2, 5);
        yard.work(1, 1, 5);
        Edge.same("other sorts, another horse", yard.due(0, 1), 404);
        yard.work(0, 1, 5);
        Edge.same("now", yard.due(0, 1), 405);
        yard.work(0, 1, 6);
        Edge.same("one that can't be", yard.due(0, 1), 405);
    }

    /** Nights 0 to 3 cost 1, 10, 100, 1000, works done on days 0 to 2 cost 3, 30, 300, and are told on day 4. */
    private static LiveryYard fourNights() {
        LiveryYard yard = one();
        int price = 1;
        for (int day = 0; day < 4; day++) {
            yard.price(0, price);
            yard.night();
            price *= 10;
        }
        for (int day = 0; day < 3; day++) {
            yard.price(5, day == 0 ? 3 : day == 1 ? 30 : 300);
            yard.work(0, 0, day);
        }
        return yard;
    }

    private static void billDays() {
        Edge.term("A BILL of a HORSE from DAY a to DAY b as known on DAY c: NIGHTS of DAYS a to b");
        int[] each = {4, 40, 400, 1000, 0};
        LiveryYard yard = fourNights();
        for (int a = 0; a < 5; a++) {
            int due = 0;
            for (int b = a; b < 5; b++) {
                due += each[b];
                Edge.same("from " + a + " to " + b, yard.bill(0, a, b, 4), due);
            }
        }
        Edge.same("from before the first", yard.bill(0, -1, 0, 4), 4);
        Edge.same("before the first", yard.bill(0, -1, -1, 4), 0);
        Edge.same("from the least to the most", yard.bill(0, LEAST, MOST, MOST), 1444);
        Edge.same("the least day alone", yard.bill(0, LEAST, LEAST, MOST), 0);
        Edge.same("the most day alone", yard.bill(0, MOST, MOST, MOST), 0);
        Edge.same("up to the day before", yard.bill(0, LEAST, 2, MOST), 444);
        Edge.same("from the day after", yard.bill(0, 1, MOST, MOST), 1440);
    }

    private static void billAsKnown() {
        Edge.term("NIGHTS of DAYS a to b (those not after c)");
        LiveryYard yard = fourNights();
        Edge.same("known before all", yard.bill(0, 0, 9, -1), 0);
        Edge.same("known on the least day", yard.bill(0, 0, 9, LEAST), 0);
        Edge.same("known on 0", yard.bill(0, 0, 9, 0), 1);
        Edge.same("known on 1", yard.bill(0, 0, 9, 1), 11);
        Edge.same("known on 2", yard.bill(0, 0, 9, 2), 111);
        Edge.same("known on 3", yard.bill(0, 0, 9, 3), 1111);
        Edge.same("known on 4, with works", yard.bill(0, 0, 9, 4), 1444);
        Edge.same("days after what is known", yard.bill(0, 2, 3, 1), 0);
        Edge.same("the day of what is known", yard.bill(0, 2, 3, 2), 100);
    }

    private static void worksAsKnown() {
        Edge.term("and WORKS done on these that were known on c or before");
        LiveryYard yard = one();
        yard.price(6, 7);
        yard.work(0, 1, 0);
        Edge.same("told on its day", yard.bill(0, 0, 0, 0), 7);
        Edge.same("known the day before", yard.bill(0, 0, 0, -1), 0);
        nights(yard, 2);
        yard.work(0, 1, 1);
        Edge.same("known on 1", yard.bill(0, 0, 2, 1), 7);
        Edge.same("known on 2", yard.bill(0, 0, 2, 2), 14);
        Edge.same("the day before it was done", yard.bill(0, 0, 0, 9), 7);
        Edge.same("the day after it was done", yard.bill(0, 2, 9, 9), 0);
        Edge.same("its day", yard.bill(0, 1, 1, 9), 7);
    }

    private static void allKept() {
        Edge.term("2000 NIGHTS of HORSES, 200 WORKS are kept: then a NIGHT, a WORK is refused.");
        LiveryYard yard = new LiveryYard();
        for (int horse = 0; horse < 10; horse++) {
            yard.horse(0, 0);
        }
        yard.price(0, 1);
        yard.price(5, 1000);
        nights(yard, 199);
        Edge.same("1990", yard.about(6), 1990);
        Edge.same("the last that can be", yard.night(), 0);
        Edge.same("2000", yard.about(6), 2000);
        Edge.same("refused", yard.night(), -1);
        for (int work = 1; work <= 200; work++) {
            Edge.same("work", yard.work(9, 0, work), work);
        }
        Edge.same("refused", yard.work(9, 0, 200), -1);
        Edge.same("refused for another, too", yard.work(0, 2, 200), -1);
        Edge.same("200", yard.about(3), 200);
        Edge.same("all nights of the first", yard.bill(0, 0, 200, 200), 200);
        Edge.same("all nights and works of the last", yard.bill(9, 0, 200, 200), 200 + 200000);
        Edge.same("the last night and work but one", yard.bill(9, 199, 199, 200), 1001);
    }

    private static void price() {
        Edge.promise(19, "A PRICE: likewise.");
        int[][] wrong = {{-1, 5}, {8, 5}, {0, -1}, {0, 1001}, {4, 1001}, {7, -1}};
        for (int[] w : wrong) {
            String call = "price(" + w[0] + ", " + w[1] + ")";
            Edge.nothing(call, yard -> Edge.same(call, yard.price(w[0], w[1]), false));
        }
        Edge.same("the first of all", new LiveryYard().price(0, 0), true);
        Edge.same("the last of all", new LiveryYard().price(7, 1000), true);
    }

    private static void falls() {
        Edge.promise(20, "A SORT of WORKS falls due after so many DAYS: likewise.");
        int[][] wrong = {{-1, 5}, {3, 5}, {0, -1}, {0, 401}, {2, 401}};
        for (int[] w : wrong) {
            String call = "falls(" + w[0] + ", " + w[1] + ")";
            Edge.nothing(call, yard -> Edge.same(call, yard.falls(w[0], w[1]), false));
        }
        Edge.same("the first of all", new LiveryYard().falls(0, 0), true);
        Edge.same("the last of all", new LiveryYard().falls(2, 400), true);
    }

    private static void work() {
        Edge.promise(24, "how many there are; NONE, doing nothing, if it can't be, or there are 200.");
        Edge.same("no horse", new LiveryYard().work(0, 0, 0), -1);
        int[][] wrong = {{-1, 0, 1}, {3, 0, 1}, {0, -1, 1}, {0, 3, 1}, {0, 0, -1}, {0, 0, 2}, {2, 0, 0}};
        for (int[] w : wrong) {
            String call = "work(" + w[0] + ", " + w[1] + ", " + w[2] + ")";
            Edge.nothing(call, yard -> Edge.same(call, yard.work(w[0], w[1], w[2]), -1));
        }
        Edge.nothing("the 201st", yard -> works(yard, 198), yard -> Edge.same("work", yard.work(1, 1, 1), -1));
        LiveryYard yard = one();
        works(yard, 199);
        Edge.same("the 200th", yard.work(0, 2, 0), 200);
        Edge.same("the 201st", yard.work(0, 2, 0), -1);
    }

    private static void works(LiveryYard yard, int count) {
        int before = yard.about(3);
        for (int i = 1; i <= count; i++) {
            Edge.same("work", yard.work(0, i % 3, 0), before + i);
        }
    }

    private static void due() {
        Edge.promise(25, "NONE if there is none such, or it never falls due.");
        LiveryYard yard = new LiveryYard();
        yard.falls(0, 1);
        yard.falls(2, 400);
        Edge.same("no horse", yard.due(0, 0), -1);
        yard.horse(0, 0);
        yard.horse(0, 0);
        Edge.answersOnly("horse", 0, 1, horse -> yard.due(horse, 0));
        Edge.same("sort -1", yard.due(0, -1), -1);
        Edge.same("sort 0", yard.due(0, 0), 1);
        Edge.same("sort 1, never", yard.due(0, 1), -1);
        Edge.same("sort 2", yard.due(0, 2), 400);
        Edge.same("sort 3", yard.due(0, 3), -1);
    }

    private static void bill() {
        Edge.promise(26, "A BILL; NONE if there is no such HORSE, or a is above b.");
        Edge.same("no horse", new LiveryYard().bill(0, 0, 0, 0), -1);
        LiveryYard yard = one();
        yard.horse(0, 0);
        yard.price(0, 9);
        yard.night();
        Edge.answersOnly("horse", 0, 1, horse -> yard.bill(horse, 0, 0, 0));
        Edge.same("a is b", yard.bill(0, 0, 0, 0), 9);
        Edge.same("a above b by one", yard.bill(0, 1, 0, 0), -1);
        Edge.same("a below b by one", yard.bill(0, -1, 0, 0), 9);
        Edge.same("a the most, b the least", yard.bill(0, MOST, LEAST, 0), -1);
        Edge.same("a the most, b one less", yard.bill(0, MOST, MOST - 1, 0), -1);
        Edge.same("a the least but one, b the least", yard.bill(0, LEAST + 1, LEAST, 0), -1);
        Edge.same("a the least, b the most", yard.bill(0, LEAST, MOST, 0), 9);
        LiveryYard dear = one();
        for (int bin = 0; bin <= 3; bin++) {
            dear.price(1 + bin, 1000);
            dear.takes(0, bin, 50);
            dear.lot(bin, 10000, 500);
            dear.lot(bin, 10000, 500);
        }
        dear.price(0, 1000);
        nights(dear, 400);
        Edge.same("400 of the dearest nights", dear.bill(0, 0, 399, 399), 400 * 201000);
    }

    private static void about() {
        Edge.promise(28, "NONE for another what.");
        LiveryYard yard = one();
        Edge.answersOnly("what", 0, 6, yard::about);
        Edge.promise(28, "4: 1 if there is a PLAN of the DAY, 5: bytes on the TAPE, 6: NIGHTS of HORSES kept.");
        Edge.same("no plan", yard.about(4), 0);
        yard.lame(0, true);
        yard.plan();
        Edge.same("a plan that sends none out", yard.about(4), 1);
        Check.tape(yard, " ".repeat(1000));
        Edge.same("a full tape", yard.about(5), 1000);
        Edge.same("no night", yard.about(6), 0);
        yard.night();
        Edge.same("a night", yard.about(6), 1);
    }
}
