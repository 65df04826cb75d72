import java.util.Random;

/** Makes rules' texts by chance: most are good, others have one thing or two put wrong, or touch a limit. */
final class TextByChance {
    private static final String[] PLACE = {"horse", "kind", "age", "days", "lame", "field", "wet", "hour"};
    private static final String[] PAIR = {"horse2", "kind2", "age2", "days2", "lame2", "gate"};
    private static final String BYTES = "abcehorz0129;=<>+-() \n$A,\t\u00ff\u0000";
    private static final String[] TOKENS = {"place", "pair", "or", "and", "not", "hour", "gate", "what", "12",
        "1234567", "longwords", ";", "=", "<", ">", "+", "-", "(", ")"};

    private final Random random;
    private final StringBuilder text = new StringBuilder();
    private boolean pair;

    TextByChance(Random random) {
        this.random = random;
    }

    String next() {
        text.setLength(0);
        int shape = random.nextInt(30);
        if (shape == 0) {
            limits();
        } else if (shape > 1) {
            int rules = random.nextInt(25) == 0 ? 10 + random.nextInt(5) : random.nextInt(4);
            for (int i = 0; i < rules; i++) {
                rule();
            }
        }
        if (random.nextInt(4) == 0) {
            spoil();
            if (random.nextInt(3) == 0) {
                spoil();
            }
        }
        if (text.length() > 980) {
            text.setLength(980);
        }
        return text.toString();
    }

    /** Many operands, or deep ones. */
    private void limits() {
        text.append(random.nextBoolean() ? "place " : "pair ");
        int kind = random.nextInt(3);
        if (kind == 0) {
            int operands = 118 + random.nextInt(5);
            text.append("1");
            for (int i = 1; i < operands; i++) {
                text.append(random.nextBoolean() ? "+" : " or ").append(random.nextInt(50));
            }
        } else {
            int depth = 6 + random.nextInt(4);
            int open = 0;
            for (int i = 0; i < depth; i++) {
                if (random.nextBoolean()) {
                    text.append("not ");
                } else {
                    text.append(kind == 1 ? "(" : "1 or 0 and 3<2-(");
                    open++;
                }
            }
            text.append("hour");
            for (int i = 0; i < open; i++) {
                text.append(")");
            }
        }
        text.append(";");
    }

    private void rule() {
        pair = random.nextBoolean();
        word(pair ? "pair" : "place");
        either(random.nextInt(4));
        sign(";");
    }

    private void either(int size) {
        both(size);
        while (random.nextInt(4) == 0) {
            word("or");
            both(size);
        }
    }

    private void both(int size) {
        single(size);
        while (random.nextInt(5) == 0) {
            word("and");
            single(size);
        }
    }

    private void single(int size) {
        if (random.nextInt(5) == 0) {
            word("not");
            single(size);
            return;
        }
        sum(size);
        if (random.nextInt(3) != 0) {
            sign("=<>".substring(random.nextInt(3)).substring(0, 1));
            sum(size);
        }
    }

    private void sum(int size) {
        term(size);
        while (random.nextInt(6) == 0) {
            sign(random.nextBoolean() ? "+" : "-");
            term(size);
        }
    }

    private void term(int size) {
        int chance = random.nextInt(6);
        if (chance == 0 && size > 0) {
            sign("(");
            either(size - 1);
            sign(")");
        } else if (chance < 3) {
            word(String.valueOf(random.nextInt(random.nextInt(9) == 0 ? 1000000 : 8)));
        } else if (pair && random.nextBoolean()) {
            word(PAIR[random.nextInt(PAIR.length)]);
        } else {
            word(PLACE[random.nextInt(PLACE.length)]);
        }
    }

    private void word(String word) {
        int length = text.length();
        if (length > 0 && Character.isLetterOrDigit(text.charAt(length - 1))) {
            text.append(random.nextInt(9) == 0 ? "\n" : " ");
        }
        text.append(word);
    }

    private void sign(String sign) {
        if (random.nextInt(12) == 0) {
            text.append(" ");
        }
        text.append(sign);
    }

    private void spoil() {
        int at = random.nextInt(text.length() + 1);
        switch (random.nextInt(4)) {
            case 0:
                text.setLength(at);
                break;
            case 1:
                text.insert(at, TOKENS[random.nextInt(TOKENS.length)]);
                break;
            case 2:
                text.insert(at, BYTES.charAt(random.nextInt(BYTES.length())));
                break;
            default:
                if (at < text.length()) {
                    text.deleteCharAt(at);
                }
                break;
        }
    }
}
