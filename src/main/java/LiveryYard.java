import java.util.Arrays;

/** A livery yard; ../shared/DOC.md tells, as numbered promises, what each public method does. */
public final class LiveryYard {
    public static final int NONE = -1;

    private static final int MAX_HORSES = 12;
    private static final int MAX_KIND = 3;
    private static final int MAX_AGE = 40;

    private static final int FIELDS = 6;
    private static final int MAX_ROOM = 6;
    private static final int MAX_WET = 9;
    private static final int HOURS = 4;
    // A spot is a place of a plan, numbered in the order of plans: by hour, then by field.
    private static final int SPOTS = HOURS * FIELDS;
    private static final int MAX_DAY = 100000;

    private static final int MAX_BYTES = 1000;
    private static final int BYTES_FED = 20;
    private static final int MAX_RULES = 12;
    private static final int MAX_OPERANDS = 120;
    private static final int MAX_DEPTH = 8;
    private static final int MAX_DIGITS = 6;

    private static final int FAULT_NO_TOKEN = 1;
    private static final int FAULT_CANNOT_STAND = 2;
    private static final int FAULT_NO_SUCH_NAME = 3;

    // Each word fills a slot of eight: the names (those of place rules first), then the other words.
    private static final String WORDS =
            "horse   kind    age     days    lame    field   wet     hour    gate    horse2  kind2   age2    days2   lame2   place   pair    or      and     not     ";
    private static final int MAX_LETTERS = 8;
    private static final int WORD_COUNT = 19;
    private static final int HORSE = 0;
    private static final int KIND = 1;
    private static final int AGE = 2;
    private static final int DAYS = 3;
    private static final int LAME = 4;
    private static final int FIELD = 5;
    private static final int WET = 6;
    private static final int HOUR = 7;
    private static final int PLACE_NAMES = 8;
    private static final int GATE = 8;
    private static final int HORSE_2 = 9;
    private static final int KIND_2 = 10;
    private static final int AGE_2 = 11;
    private static final int DAYS_2 = 12;
    private static final int LAME_2 = 13;
    private static final int NAMES = 14;

    // Kinds of tokens: a sign's is its byte, that of a word which is no name is its number in WORDS.
    private static final int END = 0;
    private static final int BAD = 1;
    private static final int NUMBER = 2;
    private static final int NAME = 3;
    private static final int PLACE = 14;
    private static final int PAIR = 15;
    private static final int OR = 16;
    private static final int AND = 17;
    private static final int NOT = 18;

    // A rule's code is postfix: below NAMES a name, from here on a number, between them an operator.
    private static final int FIRST_NUMBER = 100;
    // Each of 8 levels leaves at most four left sides open (of or, and, a comparison, a sum).
    private static final int STACK = 4 * MAX_DEPTH + 8;

    private static final int FOUND = 1;
    private static final int NOT_FOUND = 0;
    private static final int GIVEN_UP = -2;
    private static final int MAX_TRIES = 20000;
    private static final int UNKNOWN = 0;
    private static final int YES = 1;
    private static final int NO = 2;

    private static final int BINS = 4;
    private static final int MAX_LOTS = 20;
    private static final int MAX_AMOUNT = 10000;
    private static final int MAX_TAKEN = 50;
    private static final int MAX_FORETOLD = 400;

    private static final int PRICES = 8;
    private static final int DAY_PRICE = 0;
    private static final int FIRST_BIN_PRICE = 1;
    private static final int FIRST_SORT_PRICE = 5;
    private static final int MAX_PRICE = 1000;
    private static final int SORTS = 3;
    private static final int MAX_FALL = 400;
    private static final int MAX_NIGHTS = 2000;
    private static final int MAX_WORKS = 200;

    private final Herd herd;
    private final Land land;
    private final Tape tape;
    private final Rules draft;
    private final Rules inForce;
    private final Parser parser;
    private final Judge judge;
    private final Planner planner;
    private final Bin[] bins;
    private final int[] prices;
    private final Nights nights;
    private final Works works;
    private int today;

    public LiveryYard() {
        herd = new Herd();
        land = new Land();
        tape = new Tape();
        draft = new Rules();
        inForce = new Rules();
        parser = new Parser(new Tokens(tape), draft);
        judge = new Judge(herd, land, inForce);
        planner = new Planner(herd, land, judge);
        bins = new Bin[BINS];
        for (int bin = 0; bin < BINS; bin++) {
            bins[bin] = new Bin();
        }
        prices = new int[PRICES];
        nights = new Nights();
        works = new Works();
        today = 0;
    }

    public int horse(int kind, int age) {
        if (!isUpTo(kind, MAX_KIND) || !isUpTo(age, MAX_AGE)) {
            return NONE;
        }
        int horse = herd.add(kind, age, today);
        if (horse == NONE) {
            return NONE;
        }
        planner.forget();
        works.begin(horse, today);
        return horse;
    }

    public boolean lame(int horse, boolean is) {
        if (!herd.has(horse)) {
            return false;
        }
        planner.forget();
        herd.setLame(horse, is);
        return true;
    }

    public boolean field(int field, int room, int wet) {
        if (!isField(field) || !isUpTo(room, MAX_ROOM) || !isUpTo(wet, MAX_WET)) {
            return false;
        }
        planner.forget();
        land.lay(field, room, wet);
        return true;
    }

    public boolean shut(int field, int day) {
        if (!isField(field) || !isUpTo(day, MAX_DAY)) {
            return false;
        }
        planner.forget();
        land.close(field, day);
        return true;
    }

    public boolean gate(int a, int b, boolean is) {
        if (!isField(a) || !isField(b) || a == b) {
            return false;
        }
        planner.forget();
        land.setGate(a, b, is);
        return true;
    }

    public int feed(int a, int b, int c, int d, int e) {
        if (tape.length() + BYTES_FED > MAX_BYTES) {
            return NONE;
        }
        tape.append(a);
        tape.append(b);
        tape.append(c);
        tape.append(d);
        tape.append(e);
        return tape.length();
    }

    public int end(int n) {
        if (!isUpTo(n, tape.length())) {
            return NONE;
        }
        tape.cut(n);
        return n;
    }

    public int rules() {
        boolean good = parser.readRules();
        tape.cut(0);
        if (!good) {
            return NONE;
        }
        planner.forget();
        inForce.copy(draft);
        return inForce.count();
    }

    public int fault(int what) {
        switch (what) {
            case 0:
                return parser.faultFound();
            case 1:
                return parser.faultPlace();
            default:
                return NONE;
        }
    }

    public boolean may(int horse, int field, int hour) {
        return herd.has(horse) && isField(field) && isHour(hour) && judge.mayBe(horse, field, hour, today);
    }

    public boolean meet(int one, int field, int other, int otherField, int hour) {
        if (!herd.has(one) || !herd.has(other) || one == other) {
            return false;
        }
        if (!isField(field) || !isField(otherField) || !isHour(hour)) {
            return false;
        }
        return judge.mayMeet(one, field, other, otherField, hour, today);
    }

    public int plan() {
        return planner.look(today);
    }

    public int tries() {
        return planner.triesMade();
    }

    public int out(int horse) {
        int spot = herd.has(horse) ? planner.spotOf(horse) : NONE;
        return spot == NONE ? NONE : 10 * hourOf(spot) + fieldOf(spot);
    }

    public int stuck() {
        for (int horse = 0; horse < herd.count(); horse++) {
            if (!herd.isLame(horse) && !mayBeAnywhere(horse)) {
                return horse;
            }
        }
        return NONE;
    }

    public int lot(int bin, int amount, int last) {
        if (!isBin(bin) || amount < 1 || amount > MAX_AMOUNT || last < today || last > MAX_DAY) {
            return NONE;
        }
        return bins[bin].add(amount, last);
    }

    public boolean takes(int horse, int bin, int amount) {
        if (!herd.has(horse) || !isBin(bin) || !isUpTo(amount, MAX_TAKEN)) {
            return false;
        }
        herd.setWanted(horse, bin, amount);
        return true;
    }

    public boolean price(int what, int price) {
        if (!isUpTo(what, PRICES - 1) || !isUpTo(price, MAX_PRICE)) {
            return false;
        }
        prices[what] = price;
        return true;
    }

    public boolean falls(int sort, int days) {
        if (!isSort(sort) || !isUpTo(days, MAX_FALL)) {
            return false;
        }
        works.setFall(sort, days);
        return true;
    }

    public int night() {
        if (!nights.haveRoomFor(herd.count())) {
            return NONE;
        }
        for (int bin = 0; bin < BINS; bin++) {
            bins[bin].spoil(today);
        }
        int lacking = 0;
        for (int horse = 0; horse < herd.count(); horse++) {
            lacking += passNightOf(horse);
        }
        today++;
        planner.forget();
        return lacking;
    }

    public int bin(int bin, int what) {
        if (!isBin(bin)) {
            return NONE;
        }
        switch (what) {
            case 0:
                return bins[bin].count();
            case 1:
                return bins[bin].total();
            case 2:
                return bins[bin].spoiltSoFar();
            case 3:
                return bins[bin].firstLast();
            default:
                return NONE;
        }
    }

    public int foretold(int bin) {
        if (!isBin(bin)) {
            return NONE;
        }
        return bins[bin].nightsFor(herd.wantedByAll(bin), today);
    }

    public int work(int horse, int sort, int day) {
        if (!herd.has(horse) || !isSort(sort) || day > today || day < herd.cameOf(horse)) {
            return NONE;
        }
        return works.add(horse, sort, day, today, prices[FIRST_SORT_PRICE + sort]);
    }

    public int due(int horse, int sort) {
        if (!herd.has(horse) || !isSort(sort)) {
            return NONE;
        }
        return works.dueDay(horse, sort);
    }

    public int bill(int horse, int a, int b, int c) {
        if (!herd.has(horse) || a > b) {
            return NONE;
        }
        return nights.cost(horse, a, b, c) + works.cost(horse, a, b, c);
    }

    public int lacked(int horse) {
        return herd.has(horse) ? herd.lackedOf(horse) : NONE;
    }

    public int about(int what) {
        switch (what) {
            case 0:
                return today;
            case 1:
                return herd.count();
            case 2:
                return inForce.count();
            case 3:
                return works.count();
            case 4:
                return planner.hasPlan() ? 1 : 0;
            case 5:
                return tape.length();
            case 6:
                return nights.count();
            default:
                return NONE;
        }
    }

    private boolean mayBeAnywhere(int horse) {
        for (int spot = 0; spot < SPOTS; spot++) {
            if (judge.mayBe(horse, fieldOf(spot), hourOf(spot), today)) {
                return true;
            }
        }
        return false;
    }

    /** Feeds a horse and keeps its bill of this night; answers how much it lacked. */
    private int passNightOf(int horse) {
        int cost = prices[DAY_PRICE];
        int lacking = 0;
        for (int bin = 0; bin < BINS; bin++) {
            int wanted = herd.wantedOf(horse, bin);
            int taken = bins[bin].take(wanted);
            cost += taken * prices[FIRST_BIN_PRICE + bin];
            lacking += wanted - taken;
        }
        herd.addLacked(horse, lacking);
        nights.add(horse, today, cost);
        return lacking;
    }

    private static boolean isUpTo(int value, int most) {
        return value >= 0 && value <= most;
    }

    private static boolean isField(int field) {
        return isUpTo(field, FIELDS - 1);
    }

    private static boolean isHour(int hour) {
        return isUpTo(hour, HOURS - 1);
    }

    private static boolean isBin(int bin) {
        return isUpTo(bin, BINS - 1);
    }

    private static boolean isSort(int sort) {
        return isUpTo(sort, SORTS - 1);
    }

    private static int hourOf(int spot) {
        return spot / FIELDS;
    }

    private static int fieldOf(int spot) {
        return spot % FIELDS;
    }

    /** The horses; who asks for one has looked whether there is one such. */
    private static final class Herd {
        private final int[] kinds = new int[MAX_HORSES];
        private final int[] ages = new int[MAX_HORSES];
        private final int[] came = new int[MAX_HORSES];
        private final boolean[] lames = new boolean[MAX_HORSES];
        private final int[] wanted = new int[MAX_HORSES * BINS];
        private final int[] lackedSoFar = new int[MAX_HORSES];
        private int count;

        int count() {
            return count;
        }

        boolean has(int horse) {
            return horse >= 0 && horse < count;
        }

        /** Answers the number of the horse that came, or NONE if there is no room for it. */
        int add(int kind, int age, int day) {
            if (count >= MAX_HORSES) {
                return NONE;
            }
            kinds[count] = kind;
            ages[count] = age;
            came[count] = day;
            count++;
            return count - 1;
        }

        int kindOf(int horse) {
            return kinds[horse];
        }

        int ageOf(int horse) {
            return ages[horse];
        }

        int cameOf(int horse) {
            return came[horse];
        }

        boolean isLame(int horse) {
            return lames[horse];
        }

        void setLame(int horse, boolean is) {
            lames[horse] = is;
        }

        int wantedOf(int horse, int bin) {
            return wanted[horse * BINS + bin];
        }

        void setWanted(int horse, int bin, int amount) {
            wanted[horse * BINS + bin] = amount;
        }

        int wantedByAll(int bin) {
            int sum = 0;
            for (int horse = 0; horse < count; horse++) {
                sum += wantedOf(horse, bin);
            }
            return sum;
        }

        int lackedOf(int horse) {
            return lackedSoFar[horse];
        }

        void addLacked(int horse, int amount) {
            lackedSoFar[horse] += amount;
        }
    }

    /** The fields and their gates; who asks for a field has looked whether there is one such. */
    private static final class Land {
        private final int[] rooms = new int[FIELDS];
        private final int[] wets = new int[FIELDS];
        private final int[] shutUpTo = new int[FIELDS];
        private final boolean[] gates = new boolean[FIELDS * FIELDS];

        void lay(int field, int room, int wet) {
            rooms[field] = room;
            wets[field] = wet;
        }

        void close(int field, int day) {
            shutUpTo[field] = day;
        }

        void setGate(int a, int b, boolean is) {
            gates[a * FIELDS + b] = is;
            gates[b * FIELDS + a] = is;
        }

        int roomOf(int field) {
            return rooms[field];
        }

        int wetOf(int field) {
            return wets[field];
        }

        boolean isOpen(int field, int day) {
            return rooms[field] > 0 && day >= shutUpTo[field];
        }

        /** Whether horses in these two see each other at all. */
        boolean touch(int a, int b) {
            return a == b || gates[a * FIELDS + b];
        }
    }

    /** The bytes that came and are not yet read as rules. */
    private static final class Tape {
        private final int[] bytes = new int[MAX_BYTES];
        private int length;

        int length() {
            return length;
        }

        void append(int four) {
            for (int shift = 24; shift >= 0 && length < MAX_BYTES; shift -= 8) {
                bytes[length] = (four >> shift) & 255;
                length++;
            }
        }

        void cut(int n) {
            length = n;
        }

        /** A byte; NONE outside the tape, so that a reader may look one byte too far. */
        int at(int place) {
            return place >= 0 && place < length ? bytes[place] : NONE;
        }
    }

    /** Reads the tape token by token, and holds the one that is to be looked at. */
    private static final class Tokens {
        private final Tape tape;
        private int next;
        private int start;
        private int kind;
        private int value;

        Tokens(Tape tape) {
            this.tape = tape;
        }

        int start() {
            return start;
        }

        int kind() {
            return kind;
        }

        /** A number's value; a name's number, or NONE if there is no such name. */
        int value() {
            return value;
        }

        void begin() {
            next = 0;
            advance();
        }

        void advance() {
            while (next < tape.length() && isBlank(tape.at(next))) {
                next++;
            }
            start = next;
            value = NONE;
            int first = tape.at(start);
            if (first == NONE) {
                kind = END;
            } else if (isLetter(first)) {
                readWord();
            } else if (isDigit(first)) {
                readNumber();
            } else {
                next++;
                kind = isSign(first) ? first : BAD;
            }
        }

        private void readWord() {
            while (next < tape.length() && (isLetter(tape.at(next)) || isDigit(tape.at(next)))) {
                next++;
            }
            if (next - start > MAX_LETTERS) {
                kind = BAD;
                return;
            }
            int word = wordNumber();
            if (word < NAMES) {
                kind = NAME;
                value = word;
            } else {
                kind = word;
            }
        }

        private void readNumber() {
            value = 0;
            while (next < tape.length() && isDigit(tape.at(next))) {
                value = value * 10 + tape.at(next) - '0';
                next++;
            }
            boolean good = next - start <= MAX_DIGITS && !isLetter(tape.at(next));
            kind = good ? NUMBER : BAD;
        }

        private int wordNumber() {
            for (int word = 0; word < WORD_COUNT; word++) {
                int same = 0;
                while (same < MAX_LETTERS && letterOf(word, same) == letterHere(same)) {
                    same++;
                }
                if (same == MAX_LETTERS) {
                    return word;
                }
            }
            return NONE;
        }

        private static int letterOf(int word, int i) {
            int at = word * MAX_LETTERS + i;
            return at < WORDS.length() ? WORDS.charAt(at) : NONE;
        }

        private int letterHere(int i) {
            return start + i < next ? tape.at(start + i) : ' ';
        }

        private static boolean isBlank(int b) {
            return b == ' ' || b == '\n';
        }

        private static boolean isLetter(int b) {
            return b >= 'a' && b <= 'z';
        }

        private static boolean isDigit(int b) {
            return b >= '0' && b <= '9';
        }

        private static boolean isSign(int b) {
            switch (b) {
                case ';':
                case '=':
                case '<':
                case '>':
                case '+':
                case '-':
                case '(':
                case ')':
                    return true;
                default:
                    return false;
            }
        }
    }

    /** Rules as postfix code, and how they are worked out. */
    private static final class Rules {
        // No token makes more than one code.
        private final int[] codes = new int[MAX_BYTES];
        private final int[] starts = new int[MAX_RULES + 1];
        private final boolean[] ofPairs = new boolean[MAX_RULES];
        private final int[] stack = new int[STACK];
        private int length;
        private int count;

        int count() {
            return count;
        }

        void clear() {
            length = 0;
            count = 0;
        }

        void emit(int code) {
            if (length < MAX_BYTES) {
                codes[length] = code;
                length++;
            }
        }

        void endRule(boolean ofPair) {
            if (count < MAX_RULES) {
                ofPairs[count] = ofPair;
                count++;
                starts[count] = length;
            }
        }

        void copy(Rules from) {
            System.arraycopy(from.codes, 0, codes, 0, MAX_BYTES);
            System.arraycopy(from.starts, 0, starts, 0, MAX_RULES + 1);
            for (int rule = 0; rule < MAX_RULES; rule++) {
                ofPairs[rule] = from.ofPairs[rule];
            }
            length = from.length;
            count = from.count;
        }

        boolean allHold(boolean ofPair, int[] facts) {
            for (int rule = 0; rule < count; rule++) {
                if (ofPairs[rule] == ofPair && workOut(rule, facts) == 0) {
                    return false;
                }
            }
            return true;
        }

        private int workOut(int rule, int[] facts) {
            int top = NONE;
            for (int at = starts[rule]; at < starts[rule + 1]; at++) {
                int code = codes[at];
                boolean isOperator = code >= NAMES && code < FIRST_NUMBER;
                if (!isOperator) {
                    top++;
                } else if (code != NOT) {
                    top--;
                }
                if (top < 0 || top + 1 >= STACK) {
                    return 0;
                }
                int left = stack[top];
                int right = stack[top + 1];
                switch (code) {
                    case NOT:
                        stack[top] = left == 0 ? 1 : 0;
                        break;
                    case OR:
                        stack[top] = left != 0 || right != 0 ? 1 : 0;
                        break;
                    case AND:
                        stack[top] = left != 0 && right != 0 ? 1 : 0;
                        break;
                    case '=':
                        stack[top] = left == right ? 1 : 0;
                        break;
                    case '<':
                        stack[top] = left < right ? 1 : 0;
                        break;
                    case '>':
                        stack[top] = left > right ? 1 : 0;
                        break;
                    case '+':
                        stack[top] = left + right;
                        break;
                    case '-':
                        stack[top] = left - right;
                        break;
                    default:
                        stack[top] = code < NAMES ? facts[code] : code - FIRST_NUMBER;
                        break;
                }
            }
            return top == 0 ? stack[0] : 0;
        }
    }

    /** Reads the tokens as rules into a draft; the first token that is refused is the fault. */
    private static final class Parser {
        private final Tokens tokens;
        private final Rules draft;
        private int operands;
        private boolean inPair;
        private int faultFound;
        private int faultPlace;

        Parser(Tokens tokens, Rules draft) {
            this.tokens = tokens;
            this.draft = draft;
            faultPlace = NONE;
        }

        int faultFound() {
            return faultFound;
        }

        int faultPlace() {
            return faultPlace;
        }

        boolean readRules() {
            faultFound = 0;
            faultPlace = NONE;
            operands = 0;
            draft.clear();
            tokens.begin();
            for (int rule = 0; rule < MAX_RULES && tokens.kind() != END; rule++) {
                int word = tokens.kind();
                if (word != PLACE && word != PAIR) {
                    return refuse(FAULT_CANNOT_STAND);
                }
                inPair = word == PAIR;
                tokens.advance();
                if (!readEither(0)) {
                    return false;
                }
                if (tokens.kind() != ';') {
                    return refuse(FAULT_CANNOT_STAND);
                }
                tokens.advance();
                draft.endRule(inPair);
            }
            return tokens.kind() == END || refuse(FAULT_CANNOT_STAND);
        }

        private boolean readEither(int depth) {
            if (!readBoth(depth)) {
                return false;
            }
            for (int turn = 0; turn < MAX_BYTES && tokens.kind() == OR; turn++) {
                tokens.advance();
                if (!readBoth(depth)) {
                    return false;
                }
                draft.emit(OR);
            }
            return true;
        }

        private boolean readBoth(int depth) {
            if (!readOne(depth)) {
                return false;
            }
            for (int turn = 0; turn < MAX_BYTES && tokens.kind() == AND; turn++) {
                tokens.advance();
                if (!readOne(depth)) {
                    return false;
                }
                draft.emit(AND);
            }
            return true;
        }

        /** Looks at the depth for the e around it, too: both begin with the same token. */
        private boolean readOne(int depth) {
            if (depth >= MAX_DEPTH) {
                return refuse(FAULT_CANNOT_STAND);
            }
            if (tokens.kind() != NOT) {
                return readComparison(depth);
            }
            tokens.advance();
            if (!readOne(depth + 1)) {
                return false;
            }
            draft.emit(NOT);
            return true;
        }

        private boolean readComparison(int depth) {
            if (!readSum(depth)) {
                return false;
            }
            int sign = tokens.kind();
            if (sign != '=' && sign != '<' && sign != '>') {
                return true;
            }
            tokens.advance();
            if (!readSum(depth)) {
                return false;
            }
            draft.emit(sign);
            return true;
        }

        private boolean readSum(int depth) {
            if (!readTerm(depth)) {
                return false;
            }
            for (int turn = 0; turn < MAX_BYTES && (tokens.kind() == '+' || tokens.kind() == '-'); turn++) {
                int sign = tokens.kind();
                tokens.advance();
                if (!readTerm(depth)) {
                    return false;
                }
                draft.emit(sign);
            }
            return true;
        }

        private boolean readTerm(int depth) {
            int kind = tokens.kind();
            if (kind == NUMBER || kind == NAME) {
                if (!takeOperand()) {
                    return false;
                }
            } else if (kind == '(') {
                tokens.advance();
                if (!readEither(depth + 1)) {
                    return false;
                }
                if (tokens.kind() != ')') {
                    return refuse(FAULT_CANNOT_STAND);
                }
            } else {
                return refuse(FAULT_CANNOT_STAND);
            }
            tokens.advance();
            return true;
        }

        private boolean takeOperand() {
            if (operands >= MAX_OPERANDS) {
                return refuse(FAULT_CANNOT_STAND);
            }
            operands++;
            int value = tokens.value();
            if (tokens.kind() == NUMBER) {
                draft.emit(FIRST_NUMBER + value);
                return true;
            }
            if (value == NONE || value >= (inPair ? NAMES : PLACE_NAMES)) {
                return refuse(FAULT_NO_SUCH_NAME);
            }
            draft.emit(value);
            return true;
        }

        private boolean refuse(int fault) {
            faultFound = tokens.kind() == BAD ? FAULT_NO_TOKEN : fault;
            faultPlace = tokens.start();
            return false;
        }
    }

    /** Says by the rules in force who may be where, and who may meet whom. */
    private static final class Judge {
        private final Herd herd;
        private final Land land;
        private final Rules rules;
        private final int[] facts = new int[NAMES];

        Judge(Herd herd, Land land, Rules rules) {
            this.herd = herd;
            this.land = land;
            this.rules = rules;
        }

        boolean mayBe(int horse, int field, int hour, int day) {
            if (!land.isOpen(field, day)) {
                return false;
            }
            tellOfOne(horse, field, hour, day);
            return rules.allHold(false, facts);
        }

        boolean mayMeet(int one, int field, int other, int otherField, int hour, int day) {
            if (!land.touch(field, otherField)) {
                return true;
            }
            facts[GATE] = field == otherField ? 0 : 1;
            tellOfOne(one, field, hour, day);
            tellOfOther(other, day);
            if (!rules.allHold(true, facts)) {
                return false;
            }
            tellOfOne(other, otherField, hour, day);
            tellOfOther(one, day);
            return rules.allHold(true, facts);
        }

        private void tellOfOne(int horse, int field, int hour, int day) {
            facts[HORSE] = horse;
            facts[KIND] = herd.kindOf(horse);
            facts[AGE] = herd.ageOf(horse);
            facts[DAYS] = day - herd.cameOf(horse);
            facts[LAME] = herd.isLame(horse) ? 1 : 0;
            facts[FIELD] = field;
            facts[WET] = land.wetOf(field);
            facts[HOUR] = hour;
        }

        private void tellOfOther(int horse, int day) {
            facts[HORSE_2] = horse;
            facts[KIND_2] = herd.kindOf(horse);
            facts[AGE_2] = herd.ageOf(horse);
            facts[DAYS_2] = day - herd.cameOf(horse);
            facts[LAME_2] = herd.isLame(horse) ? 1 : 0;
        }
    }

    /** Looks for the day's plan and keeps it. */
    private static final class Planner {
        private final Herd herd;
        private final Land land;
        private final Judge judge;
        private final int[] spots = new int[MAX_HORSES];
        // What the judge said is kept while a plan is looked for: the same is asked thousands of times.
        private final int[] mays = new int[MAX_HORSES * SPOTS];
        // By horse, its spot and the other's field, with two bits for each other horse.
        private final int[] meets = new int[MAX_HORSES * SPOTS * FIELDS];
        private int day;
        private int triesMade;
        private boolean hasPlan;

        Planner(Herd herd, Land land, Judge judge) {
            this.herd = herd;
            this.land = land;
            this.judge = judge;
        }

        int triesMade() {
            return triesMade;
        }

        boolean hasPlan() {
            return hasPlan;
        }

        int spotOf(int horse) {
            return hasPlan ? spots[horse] : NONE;
        }

        void forget() {
            hasPlan = false;
        }

        int look(int today) {
            day = today;
            triesMade = 0;
            Arrays.fill(spots, NONE);
            Arrays.fill(mays, UNKNOWN);
            Arrays.fill(meets, UNKNOWN);
            int answer = place(0);
            hasPlan = answer == FOUND;
            return answer;
        }

        /** Places this horse and all behind it, those before it standing where they stand. */
        private int place(int horse) {
            if (horse >= herd.count()) {
                return FOUND;
            }
            if (herd.isLame(horse)) {
                return place(horse + 1);
            }
            for (int spot = 0; spot < SPOTS; spot++) {
                if (triesMade >= MAX_TRIES) {
                    return GIVEN_UP;
                }
                triesMade++;
                if (fits(horse, spot)) {
                    spots[horse] = spot;
                    int answer = place(horse + 1);
                    if (answer != NOT_FOUND) {
                        return answer;
                    }
                    spots[horse] = NONE;
                }
            }
            return NOT_FOUND;
        }

        private boolean fits(int horse, int spot) {
            if (!mayStand(horse, spot)) {
                return false;
            }
            int roomLeft = land.roomOf(fieldOf(spot));
            for (int other = 0; other < horse; other++) {
                int otherSpot = spots[other];
                if (otherSpot == NONE || hourOf(otherSpot) != hourOf(spot)) {
                    continue;
                }
                if (otherSpot == spot) {
                    roomLeft--;
                }
                if (roomLeft <= 0 || !mayStandBy(horse, spot, other, fieldOf(otherSpot))) {
                    return false;
                }
            }
            return true;
        }

        private boolean mayStand(int horse, int spot) {
            int at = horse * SPOTS + spot;
            if (mays[at] == UNKNOWN) {
                mays[at] = judge.mayBe(horse, fieldOf(spot), hourOf(spot), day) ? YES : NO;
            }
            return mays[at] == YES;
        }

        private boolean mayStandBy(int horse, int spot, int other, int otherField) {
            int at = (horse * SPOTS + spot) * FIELDS + otherField;
            int said = (meets[at] >> (2 * other)) & 3;
            if (said == UNKNOWN) {
                boolean good = judge.mayMeet(horse, fieldOf(spot), other, otherField, hourOf(spot), day);
                said = good ? YES : NO;
                meets[at] |= said << (2 * other);
            }
            return said == YES;
        }
    }

    /** The lots of a bin, in the order in which they are taken. */
    private static final class Bin {
        private final int[] amounts = new int[MAX_LOTS];
        private final int[] lasts = new int[MAX_LOTS];
        private final int[] left = new int[MAX_LOTS];
        private int count;
        private int spoiltSoFar;

        int count() {
            return count;
        }

        int spoiltSoFar() {
            return spoiltSoFar;
        }

        int firstLast() {
            return count > 0 ? lasts[0] : NONE;
        }

        int total() {
            int sum = 0;
            for (int lot = 0; lot < count; lot++) {
                sum += amounts[lot];
            }
            return sum;
        }

        /** Puts a lot behind those that are good as long; answers how many there are, or NONE. */
        int add(int amount, int last) {
            if (count >= MAX_LOTS) {
                return NONE;
            }
            int at = count;
            while (at > 0 && lasts[at - 1] > last) {
                amounts[at] = amounts[at - 1];
                lasts[at] = lasts[at - 1];
                at--;
            }
            amounts[at] = amount;
            lasts[at] = last;
            count++;
            return count;
        }

        void spoil(int day) {
            int gone = 0;
            while (gone < count && lasts[gone] < day) {
                spoiltSoFar += amounts[gone];
                gone++;
            }
            drop(gone);
        }

        /** Takes so much, or all that there is; answers how much it was. */
        int take(int wanted) {
            int missing = wanted;
            int gone = 0;
            while (gone < count && amounts[gone] <= missing) {
                missing -= amounts[gone];
                gone++;
            }
            if (gone < count) {
                amounts[gone] -= missing;
                missing = 0;
            }
            drop(gone);
            return wanted - missing;
        }

        int nightsFor(int wanted, int day) {
            System.arraycopy(amounts, 0, left, 0, MAX_LOTS);
            for (int night = 0; night < MAX_FORETOLD; night++) {
                if (!suffices(wanted, day + night)) {
                    return night;
                }
            }
            return MAX_FORETOLD;
        }

        /** Takes a night's feed out of what is left, and says whether it was there. */
        private boolean suffices(int wanted, int day) {
            int missing = wanted;
            for (int lot = 0; lot < count; lot++) {
                if (lasts[lot] >= day) {
                    int part = Math.min(left[lot], missing);
                    left[lot] -= part;
                    missing -= part;
                }
            }
            return missing == 0;
        }

        private void drop(int gone) {
            for (int lot = gone; lot < count; lot++) {
                amounts[lot - gone] = amounts[lot];
                lasts[lot - gone] = lasts[lot];
            }
            count -= gone;
        }
    }

    /** The nights of horses that are kept, with what each costs. */
    private static final class Nights {
        private final int[] horses = new int[MAX_NIGHTS];
        private final int[] days = new int[MAX_NIGHTS];
        private final int[] costs = new int[MAX_NIGHTS];
        private int count;

        int count() {
            return count;
        }

        boolean haveRoomFor(int more) {
            return count + more <= MAX_NIGHTS;
        }

        void add(int horse, int day, int cost) {
            if (count < MAX_NIGHTS) {
                horses[count] = horse;
                days[count] = day;
                costs[count] = cost;
                count++;
            }
        }

        int cost(int horse, int from, int to, int knownOn) {
            int sum = 0;
            int last = Math.min(to, knownOn);
            for (int night = 0; night < count; night++) {
                if (horses[night] == horse && days[night] >= from && days[night] <= last) {
                    sum += costs[night];
                }
            }
            return sum;
        }
    }

    /** The works that were told, with what each costs, and when the next ones fall due. */
    private static final class Works {
        private final int[] horses = new int[MAX_WORKS];
        private final int[] days = new int[MAX_WORKS];
        private final int[] known = new int[MAX_WORKS];
        private final int[] costs = new int[MAX_WORKS];
        private final int[] latest = new int[MAX_HORSES * SORTS];
        private final int[] fallAfter = new int[SORTS];
        private int count;

        int count() {
            return count;
        }

        /** A horse has come: its works fall due counted from this day. */
        void begin(int horse, int day) {
            for (int sort = 0; sort < SORTS; sort++) {
                latest[horse * SORTS + sort] = day;
            }
        }

        void setFall(int sort, int after) {
            fallAfter[sort] = after;
        }

        int add(int horse, int sort, int day, int knownOn, int cost) {
            if (count >= MAX_WORKS) {
                return NONE;
            }
            horses[count] = horse;
            days[count] = day;
            known[count] = knownOn;
            costs[count] = cost;
            count++;
            int at = horse * SORTS + sort;
            latest[at] = Math.max(latest[at], day);
            return count;
        }

        int dueDay(int horse, int sort) {
            int after = fallAfter[sort];
            return after == 0 ? NONE : latest[horse * SORTS + sort] + after;
        }

        int cost(int horse, int from, int to, int knownOn) {
            int sum = 0;
            for (int work = 0; work < count; work++) {
                boolean done = days[work] >= from && days[work] <= to;
                if (horses[work] == horse && done && known[work] <= knownOn) {
                    sum += costs[work];
                }
            }
            return sum;
        }
    }
}
