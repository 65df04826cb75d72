import java.io.IOException;
import java.nio.file.Files;
import java.nio.file.Path;
import java.util.function.Consumer;
import java.util.function.IntPredicate;
import java.util.function.IntUnaryOperator;

/**
 * Holds the edge tests to the document: each test names the words that it tests, which must stand there, and
 * no promise may be left without one.
 */
final class Edge {
    static final int LEAST = Integer.MIN_VALUE;
    static final int MOST = Integer.MAX_VALUE;

    private static final int PROMISES = 28;
    private static final String DOCUMENT = document();
    private static final boolean[] named = new boolean[PROMISES + 1];
    private static String words = "";

    private Edge() {
    }

    private static String document() {
        try {
            return plain(Files.readString(Path.of("../shared/DOC.md")));
        } catch (IOException e) {
            System.out.println("the document can't be read: " + e);
            return "";
        }
    }

    private static String plain(String text) {
        return text.replaceAll("\\s+", " ");
    }

    /** What follows tests these words of the document's terms. */
    static void term(String said) {
        begin(said, "## What it is", "## Promise 1:");
    }

    /** What follows tests these words of a promise. */
    static void promise(int number, String said) {
        String next = number < PROMISES ? "## Promise " + (number + 1) + ":" : "## Not promised";
        begin(said, "## Promise " + number + ":", next);
        named[number] = true;
    }

    private static void begin(String said, String from, String to) {
        words = said;
        if (DOCUMENT.isEmpty()) {
            return;
        }
        int start = Math.max(0, DOCUMENT.indexOf(from));
        int end = Math.max(start, DOCUMENT.indexOf(to));
        Check.same("<" + said + "> stands in the document", DOCUMENT.substring(start, end).contains(plain(said)), true);
    }

    static void everyPromiseIsNamed() {
        for (int number = 1; number <= PROMISES; number++) {
            Check.same("promise " + number + " has an edge test", named[number], true);
        }
    }

    static void same(String what, long got, long due) {
        Check.same("<" + words + ">: " + what, got, due);
    }

    static void same(String what, boolean got, boolean due) {
        Check.same("<" + words + ">: " + what, got, due);
    }

    /** The call takes the first and the last value that can be, and refuses, with false, those beside them. */
    static void takesOnly(String what, int least, int most, IntPredicate call) {
        for (int value : around(least, most)) {
            same(what + " of " + value, call.test(value), value >= least && value <= most);
        }
    }

    /** The call answers NONE for what is beside least .. most, and something else for what is not. */
    static void answersOnly(String what, int least, int most, IntUnaryOperator call) {
        takesOnly(what, least, most, value -> call.applyAsInt(value) != LiveryYard.NONE);
    }

    private static int[] around(int least, int most) {
        return new int[] {LEAST, least - 1, least, most, most + 1, most + 256, most + 65536, MOST};
    }

    /** A call that is refused changes no answer of a yard that has been lived in. */
    static void nothing(String what, Consumer<LiveryYard> refused) {
        nothing(what, yard -> { }, refused);
    }

    static void nothing(String what, Consumer<LiveryYard> before, Consumer<LiveryYard> refused) {
        LiveryYard left = LivedIn.make();
        before.accept(left);
        LiveryYard asked = LivedIn.make();
        before.accept(asked);
        refused.accept(asked);
        String due = LivedIn.ask(left);
        String got = LivedIn.ask(asked);
        same(what + " does nothing: " + got + "; due is: " + due + "; same", got.equals(due), true);
    }
}
