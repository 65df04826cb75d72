import java.util.Arrays;
import java.util.Random;
import java.util.function.IntSupplier;

/** Runs of 512 calls with arguments by chance (always the same ones), on LiveryYard and on the plain model. */
public final class RandomRunsTest {
    private static final int RUNS = 600;
    private static final int CALLS = 512;
    private static final int[] WILD = {Integer.MIN_VALUE, Integer.MAX_VALUE, -1, -2, 7, 13, 41, 51, 401, 1001, 100001};

    private final Random random;
    private final TextByChance texts;
    private final LiveryYard yard = new LiveryYard();
    private final PlainYard plain = new PlainYard();
    private final String run;
    private final int style;
    private int calls;

    private RandomRunsTest(int seed) {
        random = new Random(seed);
        texts = new TextByChance(random);
        run = "run " + seed;
        style = random.nextInt(4);
    }

    public static void main(String[] args) {
        for (int seed = 0; seed < RUNS; seed++) {
            RandomRunsTest test = new RandomRunsTest(seed);
            test.begin();
            while (test.calls < CALLS) {
                test.step();
            }
        }
        Check.end();
    }

    private void same(String call, IntSupplier got, IntSupplier due) {
        calls++;
        int answer;
        try {
            answer = got.getAsInt();
        } catch (RuntimeException e) {
            e.printStackTrace(System.out);
            answer = Integer.MIN_VALUE;
        }
        Check.same(run + ", call " + calls + ": " + call, answer, due.getAsInt());
    }

    private static int one(boolean is) {
        return is ? 1 : 0;
    }

    /** Mostly from least to most, now and then a little or far beside it. */
    private int pick(int least, int most) {
        int chance = random.nextInt(60);
        if (chance == 0) {
            return WILD[random.nextInt(WILD.length)];
        }
        if (chance == 1) {
            return least - 1;
        }
        if (chance == 2) {
            return most + 1;
        }
        if (chance < 6) {
            return chance % 2 == 0 ? least : most;
        }
        return least + random.nextInt(most - least + 1);
    }

    private int pickHorse() {
        return pick(0, Math.max(0, plain.about(1) - 1));
    }

    private void begin() {
        int horses = style == 0 ? 12 : random.nextInt(9);
        for (int i = 0; i < horses; i++) {
            horse();
        }
        for (int i = 0; i < 1 + random.nextInt(6); i++) {
            field();
        }
    }

    private void step() {
        int chance = random.nextInt(style == 1 ? 16 : 31);
        switch (chance) {
            case 0: case 1: case 2: case 3: text(); break;
            case 4: may(); meet(); break;
            case 5: may(); meet(); break;
            case 6: plan(); break;
            case 7: lame(); break;
            case 8: field(); break;
            case 9: shut(); break;
            case 10: gate(); break;
            case 11: seeAll(); break;
            case 12: end(); break;
            case 13: horse(); break;
            case 14: meet(); break;
            case 15: may(); break;
            case 16: case 17: case 18: lot(); break;
            case 19: case 20: takes(); break;
            case 21: price(); break;
            case 22: falls(); break;
            case 23: case 24: case 25: night(); break;
            case 26: bins(); break;
            case 27: work(); break;
            case 28: due(); break;
            case 29: bill(); break;
            default: lacked(); break;
        }
    }

    private void horse() {
        int kind = pick(0, 3);
        int age = pick(0, 40);
        same("horse(" + kind + ", " + age + ")", () -> yard.horse(kind, age), () -> plain.horse(kind, age));
    }

    private void lame() {
        int horse = pickHorse();
        boolean is = random.nextInt(3) == 0;
        same("lame(" + horse + ", " + is + ")", () -> one(yard.lame(horse, is)), () -> one(plain.lame(horse, is)));
    }

    private void field() {
        int field = pick(0, 5);
        int room = style == 0 ? pick(1, 2) : pick(0, 6);
        int wet = pick(0, 9);
        same("field(" + field + ", " + room + ", " + wet + ")", () -> one(yard.field(field, room, wet)),
                () -> one(plain.field(field, room, wet)));
    }

    private void shut() {
        int field = pick(0, 5);
        int day = pick(0, random.nextInt(9) == 0 ? 100000 : plain.about(0) + 3);
        same("shut(" + field + ", " + day + ")", () -> one(yard.shut(field, day)),
                () -> one(plain.shut(field, day)));
    }

    private void gate() {
        int a = pick(0, 5);
        int b = pick(0, 5);
        boolean is = random.nextInt(3) != 0;
        same("gate(" + a + ", " + b + ", " + is + ")", () -> one(yard.gate(a, b, is)),
                () -> one(plain.gate(a, b, is)));
    }

    private void text() {
        String text = texts.next();
        byte[] bytes = new byte[(text.length() + 19) / 20 * 20];
        for (int i = 0; i < text.length(); i++) {
            bytes[i] = (byte) text.charAt(i);
        }
        for (int at = 0; at < bytes.length; at += 20) {
            byte[] part = Arrays.copyOfRange(bytes, at, at + 20);
            int[] f = new int[5];
            for (int i = 0; i < 5; i++) {
                f[i] = Check.four(part, 4 * i);
            }
            same("feed(" + Arrays.toString(f) + ")", () -> yard.feed(f[0], f[1], f[2], f[3], f[4]),
                    () -> plain.feed(f));
        }
        int length = plain.about(5) - bytes.length + text.length();
        same("end(" + length + ")", () -> yard.end(length), () -> plain.end(length));
        same("rules() of <" + text + ">", () -> yard.rules(), () -> plain.rules());
        same("fault(0) of <" + text + ">", () -> yard.fault(0), () -> plain.fault(0));
        same("fault(1) of <" + text + ">", () -> yard.fault(1), () -> plain.fault(1));
    }

    private void end() {
        int n = pick(0, Math.max(0, plain.about(5)));
        same("end(" + n + ")", () -> yard.end(n), () -> plain.end(n));
        if (random.nextInt(4) == 0) {
            int f = random.nextInt();
            same("feed(" + f + ", ..)", () -> yard.feed(f, f, f, f, f), () -> plain.feed(f, f, f, f, f));
        }
    }

    private void may() {
        int horse = pickHorse();
        int field = pick(0, 5);
        int hour = pick(0, 3);
        same("may(" + horse + ", " + field + ", " + hour + ")", () -> one(yard.may(horse, field, hour)),
                () -> one(plain.may(horse, field, hour)));
    }

    private void meet() {
        int one = pickHorse();
        int field = pick(0, 5);
        int other = pickHorse();
        int otherField = random.nextBoolean() ? field : pick(0, 5);
        int hour = pick(0, 3);
        same("meet(" + one + ", " + field + ", " + other + ", " + otherField + ", " + hour + ")",
                () -> one(yard.meet(one, field, other, otherField, hour)),
                () -> one(plain.meet(one, field, other, otherField, hour)));
    }

    private void plan() {
        same("plan()", () -> yard.plan(), () -> plain.plan());
        same("tries()", () -> yard.tries(), () -> plain.tries());
        same("stuck()", () -> yard.stuck(), () -> plain.stuck());
        for (int horse = 0; horse < plain.about(1); horse++) {
            int h = horse;
            same("out(" + h + ")", () -> yard.out(h), () -> plain.out(h));
        }
        int h = pickHorse();
        same("out(" + h + ")", () -> yard.out(h), () -> plain.out(h));
    }

    private void seeAll() {
        for (int what = 0; what < 7; what++) {
            int w = what;
            same("about(" + w + ")", () -> yard.about(w), () -> plain.about(w));
        }
        int w = pick(0, 7);
        same("about(" + w + ")", () -> yard.about(w), () -> plain.about(w));
        int f = pick(0, 2);
        same("fault(" + f + ")", () -> yard.fault(f), () -> plain.fault(f));
    }

    private void lot() {
        int bin = pick(0, 3);
        int amount = pick(1, random.nextInt(20) == 0 ? 10000 : 120);
        int now = plain.about(0);
        int last = pick(now, random.nextInt(20) == 0 ? 100000 : now + 12);
        same("lot(" + bin + ", " + amount + ", " + last + ")", () -> yard.lot(bin, amount, last),
                () -> plain.lot(bin, amount, last));
    }

    private void takes() {
        int horse = pickHorse();
        int bin = pick(0, 3);
        int amount = pick(0, random.nextBoolean() ? 50 : 5);
        same("takes(" + horse + ", " + bin + ", " + amount + ")", () -> one(yard.takes(horse, bin, amount)),
                () -> one(plain.takes(horse, bin, amount)));
    }

    private void price() {
        int what = pick(0, 7);
        int price = pick(0, 1000);
        same("price(" + what + ", " + price + ")", () -> one(yard.price(what, price)),
                () -> one(plain.price(what, price)));
    }

    private void falls() {
        int sort = pick(0, 2);
        int days = pick(0, 400);
        same("falls(" + sort + ", " + days + ")", () -> one(yard.falls(sort, days)),
                () -> one(plain.falls(sort, days)));
    }

    private void night() {
        int times = style == 3 && random.nextInt(10) == 0 ? 100 : 1;
        for (int i = 0; i < times; i++) {
            same("night()", () -> yard.night(), () -> plain.night());
        }
    }

    private void bins() {
        int bin = pick(0, 3);
        for (int what = 0; what < 4; what++) {
            int w = what;
            same("bin(" + bin + ", " + w + ")", () -> yard.bin(bin, w), () -> plain.bin(bin, w));
        }
        int w = pick(0, 3);
        same("bin(" + bin + ", " + w + ")", () -> yard.bin(bin, w), () -> plain.bin(bin, w));
        same("foretold(" + bin + ")", () -> yard.foretold(bin), () -> plain.foretold(bin));
    }

    private void work() {
        int times = style == 2 && random.nextInt(10) == 0 ? 50 : 1;
        for (int i = 0; i < times; i++) {
            int horse = pickHorse();
            int sort = pick(0, 2);
            int day = pick(Math.max(0, plain.about(0) - 8), plain.about(0));
            same("work(" + horse + ", " + sort + ", " + day + ")", () -> yard.work(horse, sort, day),
                    () -> plain.work(horse, sort, day));
        }
    }

    private void due() {
        int horse = pickHorse();
        int sort = pick(0, 2);
        same("due(" + horse + ", " + sort + ")", () -> yard.due(horse, sort), () -> plain.due(horse, sort));
    }

    private void bill() {
        int horse = pickHorse();
        int now = plain.about(0);
        int a = pick(0, now);
        int b = random.nextInt(5) == 0 ? pick(0, now) : pick(Math.min(Math.max(a, 0), now), now);
        int c = pick(0, now);
        same("bill(" + horse + ", " + a + ", " + b + ", " + c + ")", () -> yard.bill(horse, a, b, c),
                () -> plain.bill(horse, a, b, c));
    }

    private void lacked() {
        int horse = pickHorse();
        same("lacked(" + horse + ")", () -> yard.lacked(horse), () -> plain.lacked(horse));
    }
}
