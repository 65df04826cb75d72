import java.util.ArrayList;
import java.util.Comparator;
import java.util.HashMap;
import java.util.HashSet;
import java.util.List;
import java.util.Map;
import java.util.Set;

/** The document once more, as a plain model with the Java library, to compare LiveryYard with. */
final class PlainYard {
    private static final class Horse {
        int kind;
        int age;
        int came;
        boolean lame;
        int lacked;
        int place = -1;
        final int[] takes = new int[4];
    }

    private static final class Lot {
        int amount;
        final int last;

        Lot(int amount, int last) {
            this.amount = amount;
            this.last = last;
        }
    }

    private static final class Entry {
        final int horse;
        final int sort;
        final int done;
        final int known;
        final int cost;

        Entry(int horse, int sort, int done, int known, int cost) {
            this.horse = horse;
            this.sort = sort;
            this.done = done;
            this.known = known;
            this.cost = cost;
        }
    }

    private final List<Horse> horses = new ArrayList<>();
    private final int[] room = new int[6];
    private final int[] wet = new int[6];
    private final int[] shut = new int[6];
    private final Set<Integer> gates = new HashSet<>();
    private final StringBuilder tape = new StringBuilder();
    private final List<List<Lot>> bins = new ArrayList<>();
    private final int[] spoilt = new int[4];
    private final int[] prices = new int[8];
    private final int[] falls = new int[3];
    private final List<Entry> nights = new ArrayList<>();
    private final List<Entry> works = new ArrayList<>();
    private final Map<String, Boolean> said = new HashMap<>();
    private PlainText rules = new PlainText("");
    private PlainText latest = rules;
    private int day;
    private boolean planned;
    private int tries;

    PlainYard() {
        for (int i = 0; i < 4; i++) {
            bins.add(new ArrayList<>());
        }
    }

    private static boolean in(int value, int least, int most) {
        return least <= value && value <= most;
    }

    private boolean isHorse(int horse) {
        return in(horse, 0, horses.size() - 1);
    }

    int horse(int kind, int age) {
        if (!in(kind, 0, 3) || !in(age, 0, 40) || horses.size() == 12) {
            return -1;
        }
        Horse horse = new Horse();
        horse.kind = kind;
        horse.age = age;
        horse.came = day;
        horses.add(horse);
        planned = false;
        return horses.size() - 1;
    }

    boolean lame(int horse, boolean is) {
        if (!isHorse(horse)) {
            return false;
        }
        horses.get(horse).lame = is;
        planned = false;
        return true;
    }

    boolean field(int field, int r, int w) {
        if (!in(field, 0, 5) || !in(r, 0, 6) || !in(w, 0, 9)) {
            return false;
        }
        room[field] = r;
        wet[field] = w;
        planned = false;
        return true;
    }

    boolean shut(int field, int until) {
        if (!in(field, 0, 5) || !in(until, 0, 100000)) {
            return false;
        }
        shut[field] = until;
        planned = false;
        return true;
    }

    boolean gate(int a, int b, boolean is) {
        if (!in(a, 0, 5) || !in(b, 0, 5) || a == b) {
            return false;
        }
        int key = 10 * Math.min(a, b) + Math.max(a, b);
        if (is) {
            gates.add(key);
        } else {
            gates.remove(key);
        }
        planned = false;
        return true;
    }

    private boolean gateOf(int a, int b) {
        return gates.contains(10 * Math.min(a, b) + Math.max(a, b));
    }

    int feed(int... fours) {
        if (tape.length() > 980) {
            return -1;
        }
        for (int four : fours) {
            tape.append((char) (four >>> 24)).append((char) (four >>> 16 & 255));
            tape.append((char) (four >>> 8 & 255)).append((char) (four & 255));
        }
        return tape.length();
    }

    int end(int n) {
        if (!in(n, 0, tape.length())) {
            return -1;
        }
        tape.setLength(n);
        return n;
    }

    int rules() {
        latest = new PlainText(tape.toString());
        tape.setLength(0);
        if (latest.fault != 0) {
            return -1;
        }
        rules = latest;
        planned = false;
        return rules.count();
    }

    int fault(int what) {
        return what == 0 ? latest.fault : what == 1 ? latest.faultPlace : -1;
    }

    private void tell(Map<String, Integer> facts, int horse, String mark) {
        Horse h = horses.get(horse);
        facts.put("horse" + mark, horse);
        facts.put("kind" + mark, h.kind);
        facts.put("age" + mark, h.age);
        facts.put("days" + mark, day - h.came);
        facts.put("lame" + mark, h.lame ? 1 : 0);
    }

    boolean may(int horse, int field, int hour) {
        if (!isHorse(horse) || !in(field, 0, 5) || !in(hour, 0, 3) || room[field] == 0 || day < shut[field]) {
            return false;
        }
        Map<String, Integer> facts = new HashMap<>();
        tell(facts, horse, "");
        facts.put("field", field);
        facts.put("wet", wet[field]);
        facts.put("hour", hour);
        return PlainText.allHold(rules.placeRules, facts);
    }

    private boolean goodFor(int one, int field, int other, int otherField, int hour) {
        Map<String, Integer> facts = new HashMap<>();
        tell(facts, one, "");
        tell(facts, other, "2");
        facts.put("field", field);
        facts.put("wet", wet[field]);
        facts.put("hour", hour);
        facts.put("gate", field == otherField ? 0 : 1);
        return PlainText.allHold(rules.pairRules, facts);
    }

    boolean meet(int one, int field, int other, int otherField, int hour) {
        if (!isHorse(one) || !isHorse(other) || one == other) {
            return false;
        }
        if (!in(field, 0, 5) || !in(otherField, 0, 5) || !in(hour, 0, 3)) {
            return false;
        }
        if (field != otherField && !gateOf(field, otherField)) {
            return true;
        }
        return goodFor(one, field, other, otherField, hour) && goodFor(other, otherField, one, field, hour);
    }

    int plan() {
        tries = 0;
        planned = false;
        said.clear();
        for (Horse horse : horses) {
            horse.place = -1;
        }
        List<Integer> sound = new ArrayList<>();
        for (int i = 0; i < horses.size(); i++) {
            if (!horses.get(i).lame) {
                sound.add(i);
            }
        }
        int answer = seek(sound, 0);
        planned = answer == 1;
        return answer;
    }

    private int seek(List<Integer> sound, int n) {
        if (n == sound.size()) {
            return 1;
        }
        for (int hour = 0; hour < 4; hour++) {
            for (int field = 0; field < 6; field++) {
                if (tries == 20000) {
                    return -2;
                }
                tries++;
                if (canGo(sound, n, hour, field)) {
                    horses.get(sound.get(n)).place = 10 * hour + field;
                    int answer = seek(sound, n + 1);
                    if (answer != 0) {
                        return answer;
                    }
                }
            }
        }
        horses.get(sound.get(n)).place = -1;
        return 0;
    }

    private boolean canGo(List<Integer> sound, int n, int hour, int field) {
        int horse = sound.get(n);
        if (!said.computeIfAbsent(horse + " " + field + " " + hour, k -> may(horse, field, hour))) {
            return false;
        }
        int there = 0;
        for (int i = 0; i < n; i++) {
            int other = sound.get(i);
            int place = horses.get(other).place;
            if (place / 10 != hour) {
                continue;
            }
            int otherField = place % 10;
            if (otherField == field) {
                there++;
            }
            String key = horse + " " + field + " " + other + " " + otherField + " " + hour;
            if (!said.computeIfAbsent(key, k -> meet(horse, field, other, otherField, hour))) {
                return false;
            }
        }
        return there < room[field];
    }

    int tries() {
        return tries;
    }

    int out(int horse) {
        return isHorse(horse) && planned ? horses.get(horse).place : -1;
    }

    int stuck() {
        for (int horse = 0; horse < horses.size(); horse++) {
            boolean anywhere = horses.get(horse).lame;
            for (int spot = 0; spot < 24; spot++) {
                anywhere |= may(horse, spot % 6, spot / 6);
            }
            if (!anywhere) {
                return horse;
            }
        }
        return -1;
    }

    int lot(int bin, int amount, int last) {
        if (!in(bin, 0, 3) || !in(amount, 1, 10000) || !in(last, day, 100000) || bins.get(bin).size() == 20) {
            return -1;
        }
        bins.get(bin).add(new Lot(amount, last));
        bins.get(bin).sort(Comparator.comparingInt(lot -> lot.last));
        return bins.get(bin).size();
    }

    boolean takes(int horse, int bin, int amount) {
        if (!isHorse(horse) || !in(bin, 0, 3) || !in(amount, 0, 50)) {
            return false;
        }
        horses.get(horse).takes[bin] = amount;
        return true;
    }

    boolean price(int what, int price) {
        if (!in(what, 0, 7) || !in(price, 0, 1000)) {
            return false;
        }
        prices[what] = price;
        return true;
    }

    boolean falls(int sort, int days) {
        if (!in(sort, 0, 2) || !in(days, 0, 400)) {
            return false;
        }
        falls[sort] = days;
        return true;
    }

    int night() {
        if (nights.size() + horses.size() > 2000) {
            return -1;
        }
        for (int bin = 0; bin < 4; bin++) {
            for (Lot lot : bins.get(bin)) {
                spoilt[bin] += lot.last < day ? lot.amount : 0;
            }
            bins.get(bin).removeIf(lot -> lot.last < day);
        }
        int lacking = 0;
        for (int i = 0; i < horses.size(); i++) {
            Horse horse = horses.get(i);
            int cost = prices[0];
            for (int bin = 0; bin < 4; bin++) {
                for (int unit = 0; unit < horse.takes[bin]; unit++) {
                    if (takeOne(bins.get(bin))) {
                        cost += prices[1 + bin];
                    } else {
                        horse.lacked++;
                        lacking++;
                    }
                }
            }
            nights.add(new Entry(i, -1, day, day, cost));
        }
        day++;
        planned = false;
        return lacking;
    }

    private static boolean takeOne(List<Lot> lots) {
        if (lots.isEmpty()) {
            return false;
        }
        lots.get(0).amount--;
        if (lots.get(0).amount == 0) {
            lots.remove(0);
        }
        return true;
    }

    int bin(int bin, int what) {
        if (!in(bin, 0, 3) || !in(what, 0, 3)) {
            return -1;
        }
        List<Lot> lots = bins.get(bin);
        int sum = 0;
        for (Lot lot : lots) {
            sum += lot.amount;
        }
        int first = lots.isEmpty() ? -1 : lots.get(0).last;
        return new int[] {lots.size(), sum, spoilt[bin], first}[what];
    }

    int foretold(int bin) {
        if (!in(bin, 0, 3)) {
            return -1;
        }
        List<Lot> lots = new ArrayList<>();
        for (Lot lot : bins.get(bin)) {
            lots.add(new Lot(lot.amount, lot.last));
        }
        for (int n = 0; n < 400; n++) {
            int then = day + n;
            lots.removeIf(lot -> lot.last < then);
            for (Horse horse : horses) {
                for (int unit = 0; unit < horse.takes[bin]; unit++) {
                    if (!takeOne(lots)) {
                        return n;
                    }
                }
            }
        }
        return 400;
    }

    int work(int horse, int sort, int done) {
        if (!isHorse(horse) || !in(sort, 0, 2) || !in(done, horses.get(horse).came, day) || works.size() == 200) {
            return -1;
        }
        works.add(new Entry(horse, sort, done, day, prices[5 + sort]));
        return works.size();
    }

    int due(int horse, int sort) {
        if (!isHorse(horse) || !in(sort, 0, 2) || falls[sort] == 0) {
            return -1;
        }
        int from = horses.get(horse).came;
        for (Entry work : works) {
            if (work.horse == horse && work.sort == sort) {
                from = Math.max(from, work.done);
            }
        }
        return from + falls[sort];
    }

    int bill(int horse, int a, int b, int c) {
        if (!isHorse(horse) || a > b) {
            return -1;
        }
        List<Entry> all = new ArrayList<>(nights);
        all.addAll(works);
        return all.stream().filter(e -> e.horse == horse && in(e.done, a, b) && e.known <= c)
                .mapToInt(e -> e.cost).sum();
    }

    int lacked(int horse) {
        return isHorse(horse) ? horses.get(horse).lacked : -1;
    }

    int about(int what) {
        if (!in(what, 0, 6)) {
            return -1;
        }
        return new int[] {day, horses.size(), rules.count(), works.size(), planned ? 1 : 0, tape.length(),
            nights.size()}[what];
    }
}
