import java.nio.charset.StandardCharsets;
import java.util.Arrays;
import java.util.NoSuchElementException;

/** Counts and prints the answers of a test that are not the due ones. */
final class Check {
    private static int checks = 0;
    private static int wrong = 0;

    private Check() {
    }

    interface Call {
        Object make();
    }

    static void equal(String what, long want, long got) {
        checks++;
        if (want != got) {
            complain(what + " answered " + got + ", due is " + want);
        }
    }

    static void equal(String what, float want, float got) {
        checks++;
        if (want != got) {
            complain(what + " answered " + got + ", due is " + want);
        }
    }

    static void equal(String what, String want, String got) {
        checks++;
        if (!want.equals(got)) {
            complain(what + " answered " + got + ", due is " + want);
        }
    }

    static void isTrue(String what, boolean holds) {
        checks++;
        if (!holds) {
            complain(what + " does not hold");
        }
    }

    static void noIndex(String what, Call call) {
        fails(what, IndexOutOfBoundsException.class, call);
    }

    static void noArgument(String what, Call call) {
        fails(what, IllegalArgumentException.class, call);
    }

    static void noState(String what, Call call) {
        fails(what, IllegalStateException.class, call);
    }

    static void noElement(String what, Call call) {
        fails(what, NoSuchElementException.class, call);
    }

    /** The very class is asked for, so that a subclass that the machine throws does not pass. */
    private static void fails(String what, Class<? extends RuntimeException> kind, Call call) {
        checks++;
        try {
            complain(what + " answered " + call.make() + ", due is " + kind.getSimpleName());
        } catch (RuntimeException e) {
            if (e.getClass() != kind) {
                complain(what + " threw " + e + ", due is " + kind.getSimpleName());
            }
        }
    }

    static void complain(String message) {
        wrong++;
        System.out.println(message);
    }

    /** Appends a text, filled up with spaces to a multiple of 20 bytes. */
    static void append(PieceTransfer x, String text) {
        byte[] bytes = text.getBytes(StandardCharsets.ISO_8859_1);
        for (int from = 0; from < bytes.length; from += 20) {
            byte[] some = new byte[20];
            Arrays.fill(some, (byte) ' ');
            System.arraycopy(bytes, from, some, 0, Math.min(20, bytes.length - from));
            x.append(word(some, 0), word(some, 4), word(some, 8), word(some, 12), word(some, 16));
        }
    }

    private static int word(byte[] some, int at) {
        return (some[at] & 255) << 24 | (some[at + 1] & 255) << 16
                | (some[at + 2] & 255) << 8 | some[at + 3] & 255;
    }

    static int load(PieceTransfer x, String text) {
        append(x, text);
        return x.load(text.length());
    }

    /** A new transfer by this text, which has no error. */
    static PieceTransfer loaded(String text) {
        PieceTransfer x = new PieceTransfer();
        int answer = load(x, text);
        if (answer < 0) {
            complain("the text " + text + " has the error " + answer + " at " + x.errorPosition());
        }
        return x;
    }

    static String map(PieceTransfer x) {
        StringBuilder map = new StringBuilder();
        int length = x.writeMap();
        for (int k = 0; k < length; k++) {
            map.append((char) x.writtenByte(k));
        }
        return map.toString();
    }

    /** The latest events, the oldest of them first, each as kind:first:second. */
    static String latest(PieceTransfer x, int howMany) {
        StringBuilder story = new StringBuilder();
        for (int back = howMany - 1; back >= 0; back--) {
            story.append(x.event(back, 0)).append(':').append(x.event(back, 1)).append(':')
                    .append(x.event(back, 2)).append(back == 0 ? "" : " ");
        }
        return story.toString();
    }

    static void end() {
        System.out.println(checks + " checks, " + wrong + " wrong");
        if (wrong != 0 || checks == 0) {
            System.exit(1);
        }
    }
}
