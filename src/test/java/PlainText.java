import java.util.ArrayDeque;
import java.util.ArrayList;
import java.util.Arrays;
import java.util.Deque;
import java.util.List;
import java.util.Map;

/**
 * The rules' text, done over in another way than the class does it: faults are found by a machine that goes over
 * the tokens once, and an e is worked out by cutting its tokens apart at the weakest operator.
 */
final class PlainText {
    private static final List<String> WORDS = Arrays.asList("place", "pair", "or", "and", "not");
    private static final List<String> PLACE_NAMES =
            Arrays.asList("horse", "kind", "age", "days", "lame", "field", "wet", "hour");
    private static final List<String> PAIR_NAMES =
            Arrays.asList("horse2", "kind2", "age2", "days2", "lame2", "gate");

    final List<List<String>> placeRules = new ArrayList<>();
    final List<List<String>> pairRules = new ArrayList<>();
    int fault = 0;
    int faultPlace = -1;

    private final String text;
    private int at = 0;
    private int tokenPlace;
    private String token;

    private enum State { RULE, ONE, TERM, AFTER }

    /** What is open: a rule's e, or one in parentheses. */
    private static final class Level {
        final int depth;
        int nots = 0;
        boolean compared = false;

        Level(int depth) {
            this.depth = depth;
        }
    }

    PlainText(String text) {
        this.text = text;
        run();
    }

    int count() {
        return placeRules.size() + pairRules.size();
    }

    /** The next token; "" at the end, null if there is none such. */
    private void next() {
        while (at < text.length() && " \n".indexOf(text.charAt(at)) >= 0) {
            at++;
        }
        tokenPlace = at;
        if (at == text.length()) {
            token = "";
            return;
        }
        int end = at;
        while (end < text.length() && String.valueOf(text.charAt(end)).matches("[a-z0-9]")) {
            end++;
        }
        if (end == at) {
            end++;
        }
        token = text.substring(at, end);
        at = end;
        if (!token.matches("[a-z][a-z0-9]{0,7}|[0-9]{1,6}|[;=<>+()-]")) {
            token = null;
        }
    }

    private void run() {
        State state = State.RULE;
        Deque<Level> levels = new ArrayDeque<>();
        List<String> rule = null;
        boolean pair = false;
        int operands = 0;
        while (true) {
            next();
            if (token == null) {
                fail(1);
                return;
            }
            if (state == State.RULE) {
                if (token.isEmpty()) {
                    return;
                }
                if (!token.equals("place") && !token.equals("pair") || count() == 12) {
                    fail(2);
                    return;
                }
                pair = token.equals("pair");
                rule = new ArrayList<>();
                levels.clear();
                levels.push(new Level(0));
                state = State.ONE;
                continue;
            }
            Level level = levels.peek();
            if (state == State.AFTER) {
                switch (token) {
                    case "+":
                    case "-":
                        state = State.TERM;
                        break;
                    case "=":
                    case "<":
                    case ">":
                        if (level.compared) {
                            fail(2);
                            return;
                        }
                        level.compared = true;
                        state = State.TERM;
                        break;
                    case "or":
                    case "and":
                        level.compared = false;
                        level.nots = 0;
                        state = State.ONE;
                        break;
                    case ")":
                        if (levels.size() == 1) {
                            fail(2);
                            return;
                        }
                        levels.pop();
                        break;
                    case ";":
                        if (levels.size() > 1) {
                            fail(2);
                            return;
                        }
                        (pair ? pairRules : placeRules).add(rule);
                        state = State.RULE;
                        break;
                    default:
                        fail(2);
                        return;
                }
                rule.add(token);
                continue;
            }
            if (level.depth + level.nots >= 8) {
                fail(2);
                return;
            }
            if (state == State.ONE && token.equals("not")) {
                level.nots++;
            } else if (token.equals("(")) {
                levels.push(new Level(level.depth + level.nots + 1));
                state = State.ONE;
            } else if (token.matches("[a-z0-9]+") && !WORDS.contains(token)) {
                operands++;
                if (operands > 120) {
                    fail(2);
                    return;
                }
                if (!token.matches("[0-9]+") && !PLACE_NAMES.contains(token)
                        && !(pair && PAIR_NAMES.contains(token))) {
                    fail(3);
                    return;
                }
                state = State.AFTER;
            } else {
                fail(2);
                return;
            }
            rule.add(token);
        }
    }

    private void fail(int what) {
        fault = what;
        faultPlace = tokenPlace;
    }

    static boolean allHold(List<List<String>> rules, Map<String, Integer> facts) {
        for (List<String> rule : rules) {
            if (worth(rule.subList(0, rule.size() - 1), facts) == 0) {
                return false;
            }
        }
        return true;
    }

    static int worth(List<String> e, Map<String, Integer> facts) {
        int cut = lastOutside(e, "or");
        if (cut >= 0) {
            int left = worth(e.subList(0, cut), facts);
            return left != 0 | worth(e.subList(cut + 1, e.size()), facts) != 0 ? 1 : 0;
        }
        cut = lastOutside(e, "and");
        if (cut >= 0) {
            int left = worth(e.subList(0, cut), facts);
            return left != 0 & worth(e.subList(cut + 1, e.size()), facts) != 0 ? 1 : 0;
        }
        if (e.get(0).equals("not")) {
            return worth(e.subList(1, e.size()), facts) == 0 ? 1 : 0;
        }
        cut = lastOutside(e, "=", "<", ">");
        if (cut >= 0) {
            int order = Integer.compare(worth(e.subList(0, cut), facts), worth(e.subList(cut + 1, e.size()), facts));
            return order == "<=>".indexOf(e.get(cut)) - 1 ? 1 : 0;
        }
        cut = lastOutside(e, "+", "-");
        if (cut >= 0) {
            int right = worth(e.subList(cut + 1, e.size()), facts);
            return worth(e.subList(0, cut), facts) + (e.get(cut).equals("+") ? right : -right);
        }
        if (e.get(0).equals("(")) {
            return worth(e.subList(1, e.size() - 1), facts);
        }
        Integer fact = facts.get(e.get(0));
        return fact != null ? fact : Integer.parseInt(e.get(0));
    }

    private static int lastOutside(List<String> e, String... signs) {
        int open = 0;
        for (int i = e.size() - 1; i >= 0; i--) {
            String t = e.get(i);
            if (t.equals(")")) {
                open++;
            } else if (t.equals("(")) {
                open--;
            } else if (open == 0) {
                for (String sign : signs) {
                    if (t.equals(sign)) {
                        return i;
                    }
                }
            }
        }
        return -1;
    }
}
