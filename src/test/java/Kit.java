import java.nio.charset.StandardCharsets;
import java.util.NoSuchElementException;

/** What all tests use: texts onto the tape, and answers held against those that are due. */
final class Kit {
    static final int THROWN = Integer.MIN_VALUE;
    private static int wrong = 0;
    private static int asked = 0;
    /** What the answers are held to from here on, told ahead of each that is not as due. */
    private static String heldTo = "";

    private Kit() {
    }

    interface Call {
        long answer();
    }

    static void due(String what, long got, long want) {
        asked++;
        if (got != want) {
            wrong++;
            System.out.println(heldTo + what + " answered " + got + ", due is " + want);
        }
    }

    static void due(String what, boolean got, boolean want) {
        due(what, got ? 1 : 0, want ? 1 : 0);
    }

    static void holdTo(String words) {
        heldTo = words;
    }

    /** How many answers were asked so far. */
    static int asked() {
        return asked;
    }

    static void dueThrow(String what, Call call) {
        due(what + " throws", orThrown(call), THROWN);
    }

    static long orThrown(Call call) {
        try {
            return call.answer();
        } catch (NoSuchElementException e) {
            return THROWN;
        }
    }

    /** Puts the text behind what is on the tape, and nothing else. */
    static void feed(EarTown x, String text) {
        byte[] bytes = text.getBytes(StandardCharsets.ISO_8859_1);
        int before = x.count(4);
        for (int i = 0; i < bytes.length; i += 20) {
            x.feed(four(bytes, i), four(bytes, i + 4), four(bytes, i + 8), four(bytes, i + 12), four(bytes, i + 16));
        }
        if (!x.end(before + bytes.length)) {
            throw new IllegalStateException("the text is too long for the tape");
        }
    }

    private static int four(byte[] bytes, int from) {
        int number = 0;
        for (int i = from; i < from + 4; i++) {
            number = number << 8 | (i < bytes.length ? bytes[i] & 255 : 0);
        }
        return number;
    }

    static int town(EarTown x, String text) {
        feed(x, text);
        return x.town();
    }

    static int book(EarTown x, String text, int lives) {
        feed(x, text);
        return x.book(lives);
    }

    static int sentence(EarTown x, String text) {
        feed(x, text);
        return x.sentence();
    }

    static EarTown of(String text) {
        EarTown x = new EarTown();
        if (town(x, text) < 0) {
            throw new IllegalStateException("a FAULT in the test's own TOWN: " + text);
        }
        return x;
    }

    static void finish() {
        System.out.println(wrong == 0 ? asked + " answers are as due" : wrong + " of " + asked + " answers are not as due");
        if (wrong != 0) {
            System.exit(1);
        }
    }
}
