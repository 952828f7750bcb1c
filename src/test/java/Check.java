import java.nio.charset.StandardCharsets;
import java.util.Arrays;

/** Counts answers that are not the due ones, and puts texts on a tape. */
final class Check {
    private static int right = 0;
    private static int wrong = 0;

    private Check() {
    }

    static void eq(String what, long got, long due) {
        if (got == due) {
            right++;
        } else {
            wrong++;
            System.out.println(what + " answered " + got + ", due is " + due);
        }
    }

    static void is(String what, boolean got) {
        eq(what, got ? 1 : 0, 1);
    }

    static int made() {
        return right + wrong;
    }

    static int wrong() {
        return wrong;
    }

    /** Ends the test class's run: exit code 1 if an answer was wrong. */
    static void close() {
        System.out.println(right + " answers right, " + wrong + " wrong");
        if (wrong != 0 || right == 0) {
            System.exit(1);
        }
    }

    static void put(NamesAgain x, String text) {
        put(x, text.getBytes(StandardCharsets.ISO_8859_1));
    }

    static void put(NamesAgain x, byte[] bytes) {
        int had = x.count(2);
        byte[] padded = Arrays.copyOf(bytes, (bytes.length + 19) / 20 * 20);
        for (int i = 0; i < padded.length; i += 20) {
            x.feed(four(padded, i), four(padded, i + 4), four(padded, i + 8), four(padded, i + 12), four(padded, i + 16));
        }
        is("the tape has room", x.end(had + bytes.length));
    }

    private static int four(byte[] bytes, int i) {
        return (bytes[i] & 255) << 24 | (bytes[i + 1] & 255) << 16 | (bytes[i + 2] & 255) << 8 | bytes[i + 3] & 255;
    }

    static NamesAgain town(String text) {
        NamesAgain x = new NamesAgain();
        put(x, text);
        is("a TOWN without a FAULT: " + text, x.town() >= 0);
        return x;
    }

    static void townFault(String text, int kind, int place) {
        NamesAgain x = town("name kept 7;");
        put(x, text);
        eq("town of '" + text + "'", x.town(), -1 - place);
        eq("fault of '" + text + "'", x.fault(), kind);
        eq("the TOWN that stays behind '" + text + "'", x.name(0, 0), 7);
        eq("the tape behind '" + text + "'", x.count(2), 0);
    }

    static int roll(NamesAgain x, String text, int lives) {
        put(x, text);
        return x.roll(lives);
    }

    static int sentence(NamesAgain x, String text) {
        put(x, text);
        return x.sentence();
    }

    static boolean throwsNoSuch(NamesAgain x, int s, int what) {
        try {
            x.soul(s, what);
            return false;
        } catch (java.util.NoSuchElementException e) {
            return true;
        }
    }

    static String times(String text, int n) {
        return text.repeat(n);
    }
}
