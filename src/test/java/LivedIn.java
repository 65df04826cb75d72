/** A yard in which something of everything has been told, and what can be asked of it. */
final class LivedIn {
    private LivedIn() {
    }

    /** Some fifty calls: two days, three horses (one lame), four fields, a plan, a tape with half a text. */
    static LiveryYard make() {
        LiveryYard yard = new LiveryYard();
        yard.horse(0, 10);
        yard.horse(1, 11);
        for (int field = 0; field < 4; field++) {
            yard.field(field, 1 + field, field);
        }
        yard.gate(0, 1, true);
        yard.gate(2, 3, true);
        yard.shut(1, 3);
        for (int bin = 0; bin < 4; bin++) {
            yard.lot(bin, 20 + bin, 2 + bin);
            yard.lot(bin, 9, 1);
            yard.takes(0, bin, 3 + bin);
            yard.takes(1, bin, 9);
        }
        for (int what = 0; what < 8; what++) {
            yard.price(what, 100 + what);
        }
        for (int sort = 0; sort < 3; sort++) {
            yard.falls(sort, 7 + sort);
        }
        yard.night();
        yard.horse(2, 12);
        yard.lame(2, true);
        yard.work(1, 1, 0);
        yard.work(2, 2, 1);
        Check.rules(yard, "place hour>0 or horse=1; pair not (gate and kind2);");
        Check.tape(yard, "place 1; pair ");
        yard.plan();
        return yard;
    }

    /** Asks first what changes nothing, then lets days pass, so that what was told shows. */
    static String ask(LiveryYard yard) {
        StringBuilder seen = new StringBuilder();
        look(yard, seen);
        put(seen, yard.rules(), yard.fault(0), yard.fault(1));
        seen.append("| wet");
        Check.rules(yard, "place wet=hour; pair 0;");
        places(yard, seen);
        for (int pair = 0; pair < 36; pair++) {
            put(seen, yard.meet(0, pair / 6, 1, pair % 6, 0) ? 1 : 0);
        }
        seen.append("| works");
        for (int sort = 0; sort < 3; sort++) {
            put(seen, yard.work(2, sort, 1), yard.bill(2, 0, 9, 9), yard.due(2, sort));
        }
        for (int night = 0; night < 2; night++) {
            seen.append("| night");
            put(seen, yard.night());
            bins(yard, seen);
            bills(yard, seen);
        }
        return seen.toString();
    }

    private static void look(LiveryYard yard, StringBuilder seen) {
        seen.append("about");
        for (int what = 0; what < 7; what++) {
            put(seen, yard.about(what));
        }
        put(seen, yard.fault(0), yard.fault(1), yard.tries(), yard.stuck());
        for (int horse = 0; horse < 3; horse++) {
            put(seen, yard.out(horse));
        }
        places(yard, seen);
        bins(yard, seen);
        bills(yard, seen);
    }

    private static void places(LiveryYard yard, StringBuilder seen) {
        seen.append("| places");
        for (int spot = 0; spot < 24; spot++) {
            put(seen, yard.may(0, spot % 6, spot / 6) ? 1 : 0);
        }
    }

    private static void bins(LiveryYard yard, StringBuilder seen) {
        seen.append("| bins");
        for (int bin = 0; bin < 4; bin++) {
            for (int what = 0; what < 4; what++) {
                put(seen, yard.bin(bin, what));
            }
            put(seen, yard.foretold(bin));
        }
    }

    private static void bills(LiveryYard yard, StringBuilder seen) {
        seen.append("| bills");
        for (int horse = 0; horse < 3; horse++) {
            put(seen, yard.bill(horse, 0, 999, 999), yard.lacked(horse));
            for (int sort = 0; sort < 3; sort++) {
                put(seen, yard.due(horse, sort));
            }
        }
    }

    private static void put(StringBuilder seen, int... answers) {
        for (int answer : answers) {
            seen.append(' ').append(answer);
        }
    }
}
