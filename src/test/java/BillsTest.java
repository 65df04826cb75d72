/** Promises 19, 20, 24, 25, 26, 28: price, falls, work, due, bill, about. */
public final class BillsTest {
    private static final int LEAST = Integer.MIN_VALUE;
    private static final int MOST = Integer.MAX_VALUE;

    public static void main(String[] args) {
        price();
        falls();
        work();
        manyWorks();
        due();
        billOfNights();
        billOfWorks();
        largestBill();
        about();
        Check.end();
    }

    private static void price() {
        LiveryYard yard = new LiveryYard();
        yard.horse(0, 0);
        Check.same("price(0, 9)", yard.price(0, 9), true);
        int[][] wrong = {{-1, 1}, {8, 1}, {0, -1}, {0, 1001}, {LEAST, 1}, {MOST, 1}, {0, LEAST}, {0, MOST}};
        for (int[] w : wrong) {
            Check.same("price(" + w[0] + ", " + w[1] + ")", yard.price(w[0], w[1]), false);
        }
        yard.night();
        Check.same("nothing was done", yard.bill(0, 0, 0, 0), 9);
        for (int what = 0; what < 8; what++) {
            Check.same("price(" + what + ", 1000)", yard.price(what, 1000), true);
            Check.same("price(" + what + ", 0)", yard.price(what, 0), true);
        }
        for (int bin = 0; bin < 4; bin++) {
            yard.price(1 + bin, 10 + bin);
            yard.takes(0, bin, 1 + bin);
            yard.lot(bin, 50, 50);
        }
        yard.night();
        Check.same("each bin by its price", yard.bill(0, 1, 1, 1), 10 + 2 * 11 + 3 * 12 + 4 * 13);
        for (int sort = 0; sort < 3; sort++) {
            yard.price(5 + sort, 100 * (sort + 1));
            yard.work(0, sort, 2);
            Check.same("works up to sort " + sort, yard.bill(0, 2, 2, 2), 50 * (sort + 1) * (sort + 2));
        }
    }

    private static void falls() {
        LiveryYard yard = new LiveryYard();
        yard.horse(0, 0);
        Check.same("never at first", yard.due(0, 2), -1);
        Check.same("falls(2, 400)", yard.falls(2, 400), true);
        int[][] wrong = {{-1, 1}, {3, 1}, {2, -1}, {2, 401}, {LEAST, 1}, {MOST, 1}, {2, LEAST}, {2, MOST}};
        for (int[] w : wrong) {
            Check.same("falls(" + w[0] + ", " + w[1] + ")", yard.falls(w[0], w[1]), false);
        }
        Check.same("due after 400", yard.due(0, 2), 400);
        Check.same("another sort", yard.due(0, 1), -1);
        Check.same("falls(2, 1)", yard.falls(2, 1), true);
        Check.same("due after 1", yard.due(0, 2), 1);
        Check.same("falls(2, 0)", yard.falls(2, 0), true);
        Check.same("never", yard.due(0, 2), -1);
    }

    private static void work() {
        LiveryYard yard = new LiveryYard();
        Check.same("work on none", yard.work(0, 0, 0), -1);
        yard.night();
        yard.night();
        yard.horse(0, 0);
        yard.night();
        yard.night();
        int[][] wrong = {{-1, 0, 3}, {1, 0, 3}, {0, -1, 3}, {0, 3, 3}, {0, 0, 1}, {0, 0, 5}, {0, 0, -1}, {LEAST, 0, 3},
            {MOST, 0, 3}, {0, LEAST, 3}, {0, MOST, 3}, {0, 0, LEAST}, {0, 0, MOST}};
        for (int[] w : wrong) {
            Check.same("work(" + w[0] + ", " + w[1] + ", " + w[2] + ")", yard.work(w[0], w[1], w[2]), -1);
        }
        Check.same("nothing was told", yard.about(3), 0);
        Check.same("on the day it came", yard.work(0, 0, 2), 1);
        Check.same("now", yard.work(0, 2, 4), 2);
        Check.same("the same again", yard.work(0, 2, 4), 3);
        Check.same("works", yard.about(3), 3);
    }

    private static void manyWorks() {
        LiveryYard yard = new LiveryYard();
        yard.horse(0, 0);
        yard.horse(0, 0);
        yard.price(5, 1000);
        yard.price(6, 1000);
        for (int i = 1; i <= 200; i++) {
            Check.same("work " + i, yard.work(i % 2, i % 2, 0), i);
        }
        Check.same("work 201", yard.work(0, 0, 0), -1);
        Check.same("works", yard.about(3), 200);
        Check.same("half of them", yard.bill(0, 0, 0, 0), 100000);
        Check.same("the other half", yard.bill(1, 0, 0, 0), 100000);
        yard.night();
        yard.falls(0, 5);
        Check.same("a work that was refused", yard.work(0, 0, 1), -1);
        Check.same("moves nothing", yard.due(0, 0), 5);
    }

    private static void due() {
        LiveryYard yard = new LiveryYard();
        yard.falls(0, 10);
        Check.same("due of none", yard.due(0, 0), -1);
        yard.night();
        yard.horse(0, 0);
        yard.horse(0, 0);
        yard.night();
        yard.night();
        for (int wrong : new int[] {-1, 2, LEAST, MOST}) {
            Check.same("due(" + wrong + ", 0)", yard.due(wrong, 0), -1);
        }
        for (int wrong : new int[] {-1, 3, LEAST, MOST}) {
            Check.same("due(0, " + wrong + ")", yard.due(0, wrong), -1);
        }
        Check.same("from the day it came", yard.due(0, 0), 11);
        yard.work(0, 1, 3);
        Check.same("another sort's work", yard.due(0, 0), 11);
        yard.work(1, 0, 3);
        Check.same("another horse's work", yard.due(0, 0), 11);
        yard.work(0, 0, 2);
        Check.same("from a work", yard.due(0, 0), 12);
        yard.work(0, 0, 1);
        Check.same("not from an earlier one", yard.due(0, 0), 12);
        yard.work(0, 0, 3);
        Check.same("from a later one", yard.due(0, 0), 13);
        yard.falls(0, 0);
        Check.same("never", yard.due(0, 0), -1);
        yard.falls(1, 400);
        Check.same("works told before it falls due count", yard.due(0, 1), 403);
    }

    private static void billOfNights() {
        LiveryYard yard = new LiveryYard();
        Check.same("bill of none", yard.bill(0, 0, 0, 0), -1);
        yard.horse(0, 0);
        yard.price(0, 1);
        yard.night();
        yard.price(0, 10);
        yard.horse(0, 0);
        yard.takes(1, 0, 5);
        yard.price(1, 100);
        yard.lot(0, 3, 1);
        yard.night();
        yard.price(0, 1000);
        yard.price(1, 999);
        yard.night();
        for (int wrong : new int[] {-1, 2, LEAST, MOST}) {
            Check.same("bill(" + wrong + ", ..)", yard.bill(wrong, 0, 9, 9), -1);
        }
        Check.same("a above b", yard.bill(0, 1, 0, 9), -1);
        Check.same("a far above b", yard.bill(0, MOST, LEAST, 9), -1);
        Check.same("all", yard.bill(0, LEAST, MOST, MOST), 1011);
        Check.same("all of the other", yard.bill(1, LEAST, MOST, MOST), 310 + 1000);
        Check.same("day 0", yard.bill(0, 0, 0, 9), 1);
        Check.same("day 1", yard.bill(0, 1, 1, 9), 10);
        Check.same("days 1 and 2", yard.bill(0, 1, 2, 9), 1010);
        Check.same("days 0 to 2 as known on 1", yard.bill(0, 0, 2, 1), 11);
        Check.same("days 0 to 2 as known on 0", yard.bill(0, 0, 2, 0), 1);
        Check.same("as known before", yard.bill(0, 0, 2, -1), 0);
        Check.same("before it came", yard.bill(1, 0, 0, 9), 0);
        Check.same("what it took, not what it lacked", yard.bill(1, 1, 1, 1), 310);
        Check.same("days to come", yard.bill(0, 3, 9, 9), 0);
        Check.same("before all", yard.bill(0, LEAST, -1, MOST), 0);
    }

    private static void billOfWorks() {
        LiveryYard yard = new LiveryYard();
        yard.horse(0, 0);
        yard.horse(0, 0);
        yard.night();
        yard.night();
        yard.price(5, 7);
        yard.work(0, 0, 0);
        yard.price(5, 70);
        yard.work(0, 0, 2);
        yard.night();
        yard.price(6, 500);
        yard.work(0, 1, 0);
        yard.work(1, 1, 1);
        yard.price(6, 0);
        Check.same("day 0 as known on 0", yard.bill(0, 0, 0, 0), 0);
        Check.same("day 0 as known on 1", yard.bill(0, 0, 0, 1), 0);
        Check.same("day 0 as known on 2", yard.bill(0, 0, 0, 2), 7);
        Check.same("day 0 as known on 3", yard.bill(0, 0, 0, 3), 507);
        Check.same("day 1", yard.bill(0, 1, 1, 3), 0);
        Check.same("day 2", yard.bill(0, 2, 2, 2), 70);
        Check.same("all", yard.bill(0, LEAST, MOST, MOST), 577);
        Check.same("the other", yard.bill(1, 0, 9, 9), 500);
        Check.same("the day after", yard.bill(0, 3, 9, 9), 0);
    }

    private static void largestBill() {
        LiveryYard yard = new LiveryYard();
        yard.horse(0, 0);
        for (int bin = 0; bin < 4; bin++) {
            yard.takes(0, bin, 50);
            yard.price(1 + bin, 1000);
            yard.lot(bin, 10000, 500);
        }
        yard.price(0, 1000);
        for (int i = 0; i < 200; i++) {
            Check.same("none lacks", yard.night(), 0);
        }
        Check.same("200 nights of 201000", yard.bill(0, 0, 199, 199), 40200000);
    }

    private static void about() {
        LiveryYard yard = new LiveryYard();
        for (int wrong : new int[] {-1, 7, LEAST, MOST}) {
            Check.same("about(" + wrong + ")", yard.about(wrong), -1);
        }
        yard.horse(0, 0);
        yard.horse(0, 0);
        yard.horse(0, 0);
        yard.night();
        yard.night();
        Check.rules(yard, "place 1; pair 1; place 1; pair 1; place 1;");
        yard.work(0, 0, 0);
        yard.feed(0, 0, 0, 0, 0);
        yard.end(13);
        yard.field(0, 3, 0);
        Check.same("the day", yard.about(0), 2);
        Check.same("horses", yard.about(1), 3);
        Check.same("rules", yard.about(2), 5);
        Check.same("works", yard.about(3), 1);
        Check.same("no plan", yard.about(4), 0);
        Check.same("bytes", yard.about(5), 13);
        Check.same("nights of horses", yard.about(6), 6);
        yard.plan();
        Check.same("a plan", yard.about(4), 1);
    }
}
