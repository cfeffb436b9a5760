import java.nio.charset.StandardCharsets;
import java.util.Arrays;
import java.util.NoSuchElementException;

/** Counts and prints the answers of a test that are not the due ones. */
class Check {
    /** What the checks are about; it stands in front of every complaint. */
    static String about = "";
    private static int checks = 0;
    private static int wrong = 0;

    interface Call {
        Object make();
    }

    static void equal(String what, long want, long got) {
        checks++;
        if (want != got) {
            complain(what + " answered " + got + ", due is " + want);
        }
    }

    static void equal(String what, float want, float got) {
        checks++;
        if (want != got) {
            complain(what + " answered " + got + ", due is " + want);
        }
    }

    static void equal(String what, String want, String got) {
        checks++;
        if (!want.equals(got)) {
            complain(what + " answered " + got + ", due is " + want);
        }
    }

    static void isTrue(String what, boolean holds) {
        checks++;
        if (!holds) {
            complain(what + " does not hold");
        }
    }

    static void noIndex(String what, Call call) {
        fails(what, IndexOutOfBoundsException.class, call);
    }

    static void noArgument(String what, Call call) {
        fails(what, IllegalArgumentException.class, call);
    }

    static void noState(String what, Call call) {
        fails(what, IllegalStateException.class, call);
    }

    static void noElement(String what, Call call) {
        fails(what, NoSuchElementException.class, call);
    }

    /**
     * The very class is asked for, so that a subclass that the machine throws does not pass, and
     * the program's own throw, so that neither does one that the library throws.
     */
    private static void fails(String what, Class<? extends RuntimeException> kind, Call call) {
        checks++;
        try {
            complain(what + " answered " + call.make() + ", due is " + kind.getSimpleName());
        } catch (RuntimeException e) {
            if (e.getClass() != kind) {
                complain(what + " threw " + e + ", due is " + kind.getSimpleName());
            }
            StackTraceElement[] trace = e.getStackTrace();
            if (trace.length == 0 || !trace[0].getClassName().startsWith("PieceTransfer")) {
                complain(what + " threw " + e + ", but not by a throw of its own");
            }
        }
    }

    static void complain(String message) {
        wrong++;
        System.out.println(about + message);
    }

    static int checks() {
        return checks;
    }

    /** Appends a text, filled up with spaces to a multiple of 20 bytes. */
    static void append(PieceTransfer x, String text) {
        byte[] bytes = text.getBytes(StandardCharsets.ISO_8859_1);
        for (int from = 0; from < bytes.length; from += 20) {
            byte[] some = new byte[20];
            Arrays.fill(some, (byte) ' ');
            System.arraycopy(bytes, from, some, 0, Math.min(20, bytes.length - from));
            x.append(word(some, 0), word(some, 4), word(some, 8), word(some, 12), word(some, 16));
        }
    }

    private static int word(byte[] some, int at) {
        return (some[at] & 255) << 24 | (some[at + 1] & 255) << 16
                | (some[at + 2] & 255) << 8 | some[at + 3] & 255;
    }

    static int load(PieceTransfer x, String text) {
        append(x, text);
        return x.load(text.length());
    }

    /** A new transfer by this text, which has no error. */
    static PieceTransfer loaded(String text) {
        PieceTransfer x = new PieceTransfer();
        int answer = load(x, text);
        if (answer < 0) {
            complain("the text " + text + " has the error " + answer + " at " + x.errorPosition());
        }
        return x;
    }

    static String map(PieceTransfer x) {
        StringBuilder map = new StringBuilder();
        int length = x.writeMap();
        for (int k = 0; k < length; k++) {
            map.append((char) x.writtenByte(k));
        }
        return map.toString();
    }

    /** The latest events, the oldest of them first, each as kind:first:second. */
    static String latest(PieceTransfer x, int howMany) {
        StringBuilder story = new StringBuilder();
        for (int back = howMany - 1; back >= 0; back--) {
            story.append(x.event(back, 0)).append(':').append(x.event(back, 1)).append(':')
                    .append(x.event(back, 2)).append(back == 0 ? "" : " ");
        }
        return story.toString();
    }

    /** All that a change may change, in about 100 calls if L and the audit are small. */
    static String state(PieceTransfer x) {
        StringBuilder all = new StringBuilder();
        for (int what = 0; what <= 11; what++) {
            all.append(x.count(what)).append(' ');
        }
        for (int source = 0; source < 2; source++) {
            for (int what = 0; what <= 4; what++) {
                all.append(x.source(source, what)).append(' ');
            }
            all.append(x.checksum(source, 0, x.count(0))).append(' ');
        }
        for (int place = 0; place < x.count(0); place++) {
            all.append(x.got(place)).append(' ');
        }
        for (int piece = 0; piece < x.count(1); piece++) {
            all.append(x.piece(piece, 6)).append(' ');
        }
        for (int part = 0; part < x.count(2); part++) {
            all.append(x.part(part, 3)).append(' ');
        }
        for (int partial = 0; partial < x.count(8); partial++) {
            for (int what = 0; what <= 2; what++) {
                all.append(x.partial(partial, what)).append(' ');
            }
        }
        all.append(latest(x, Math.min(40, x.count(9)))).append(' ').append(x.ticksLeft());
        return all.toString();
    }

    /** What a refused call would most likely change, in few calls. */
    static String glance(PieceTransfer x) {
        StringBuilder some = new StringBuilder();
        for (int what = 3; what <= 10; what++) {
            some.append(x.count(what)).append(' ');
        }
        for (int source = 0; source < 2; source++) {
            for (int what = 0; what <= 3; what++) {
                some.append(x.source(source, what)).append(' ');
            }
        }
        for (int partial = 0; partial < x.count(8); partial++) {
            some.append(x.partial(partial, 0)).append(' ');
            some.append(x.partial(partial, 2)).append(' ');
        }
        return some.append(x.wrongBytes()).append(' ').append(x.errorPosition()).toString();
    }

    /** What was written last; how long it is can be told by the refusal alone. */
    static String written(PieceTransfer x) {
        StringBuilder text = new StringBuilder();
        try {
            while (text.length() < 1000) {
                text.append((char) x.writtenByte(text.length()));
            }
        } catch (IndexOutOfBoundsException e) {
            return text.toString();
        }
        return text.append("... without an end").toString();
    }

    static void end() {
        System.out.println(checks + " checks, " + wrong + " wrong");
        if (wrong != 0 || checks == 0) {
            System.exit(1);
        }
    }
}
