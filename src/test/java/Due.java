import java.nio.charset.StandardCharsets;
import java.util.Arrays;

/** What all tests of the project use: answers that are due, and texts brought to the tape. */
public final class Due {
    private static int wrong = 0;
    private static int asked = 0;

    private Due() {
    }

    public static void is(String what, long got, long want) {
        asked++;
        if (got != want) {
            wrong++;
            System.out.println(what + " answered " + got + ", due is " + want);
        }
    }

    public static void is(String what, boolean got, boolean want) {
        is(what, got ? 1 : 0, want ? 1 : 0);
    }

    /** The answer of a call, and the STATUS behind it. */
    static void with(String what, PacedMap map, long got, long want, int status) {
        is(what, got, want);
        is(what + ", then status()", map.status(), status);
    }

    static void with(String what, PacedMap map, boolean got, boolean want, int status) {
        with(what, map, got ? 1 : 0, want ? 1 : 0, status);
    }

    /** A call that tells a FRACTION. */
    static void fraction(String what, PacedMap map, boolean got, long top, long bottom) {
        with(what, map, got, true, 0);
        is(what + ", then top()", map.top(), top);
        is(what + ", then bottom()", map.bottom(), bottom);
    }

    /** Feeds a text to an empty tape: how many bytes it has. */
    static int feed(PacedMap map, byte[] text) {
        byte[] whole = Arrays.copyOf(text, (text.length + 19) / 20 * 20);
        for (int i = 0; i < whole.length; i += 20) {
            map.feed(four(whole, i), four(whole, i + 4), four(whole, i + 8), four(whole, i + 12), four(whole, i + 16));
        }
        return text.length;
    }

    static int feed(PacedMap map, String text) {
        return feed(map, text.getBytes(StandardCharsets.ISO_8859_1));
    }

    static int town(PacedMap map, String text) {
        return map.town(feed(map, text));
    }

    static int days(PacedMap map, String text) {
        return map.days(feed(map, text));
    }

    static int four(byte[] b, int i) {
        return (b[i] & 255) << 24 | (b[i + 1] & 255) << 16 | (b[i + 2] & 255) << 8 | (b[i + 3] & 255);
    }

    /** Ends the test: with 1 if an answer was not as due. */
    static void end(String name) {
        System.out.println(name + ": " + asked + " answers, " + wrong + " not as due");
        if (wrong != 0) {
            System.exit(1);
        }
    }
}
