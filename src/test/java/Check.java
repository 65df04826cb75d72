import java.nio.charset.StandardCharsets;
import java.util.Arrays;

/** What the tests share: comparing answers, and putting texts on a yard's tape. */
final class Check {
    private static int wrong = 0;
    private static int checked = 0;

    private Check() {
    }

    static void same(String what, long got, long due) {
        checked++;
        if (got != due) {
            wrong++;
            System.out.println(what + " answered " + got + ", due is " + due);
        }
    }

    static void same(String what, boolean got, boolean due) {
        same(what, got ? 1 : 0, due ? 1 : 0);
    }

    /** Ends the test: exit code 1 if an answer was wrong, or if nothing was asked. */
    static void end() {
        System.out.println(checked + " answers, " + wrong + " wrong");
        if (wrong != 0 || checked == 0) {
            System.exit(1);
        }
    }

    /** Puts a text on the tape, twenty bytes a call, and cuts what was filled up. */
    static void tape(LiveryYard yard, String text) {
        byte[] bytes = text.getBytes(StandardCharsets.ISO_8859_1);
        int before = yard.about(5);
        for (int at = 0; at < bytes.length; at += 20) {
            byte[] part = Arrays.copyOfRange(bytes, at, at + 20);
            yard.feed(four(part, 0), four(part, 4), four(part, 8), four(part, 12), four(part, 16));
        }
        yard.end(before + bytes.length);
    }

    static int four(byte[] bytes, int at) {
        return bytes[at] << 24 | (bytes[at + 1] & 255) << 16 | (bytes[at + 2] & 255) << 8 | bytes[at + 3] & 255;
    }

    static int rules(LiveryYard yard, String text) {
        tape(yard, text);
        return yard.rules();
    }

    /** The text is good and has so many rules. */
    static void good(String text, int count) {
        LiveryYard yard = new LiveryYard();
        same("rules of <" + text + ">", rules(yard, text), count);
        same("fault(0) of <" + text + ">", yard.fault(0), 0);
        same("fault(1) of <" + text + ">", yard.fault(1), LiveryYard.NONE);
    }

    /** The text has this fault at this place. */
    static void bad(String text, int fault, int place) {
        LiveryYard yard = new LiveryYard();
        same("rules of <" + text + ">", rules(yard, text), LiveryYard.NONE);
        same("fault(0) of <" + text + ">", yard.fault(0), fault);
        same("fault(1) of <" + text + ">", yard.fault(1), place);
    }
}
