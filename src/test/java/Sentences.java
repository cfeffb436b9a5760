/** What the tests of single sentences have in common: each one bears the words it tests. */
abstract class Sentences extends Check {
    /** Three pieces with the parts 0 1 2, 3 4 5 and 6 7; every kind of statement. */
    static final String TEXT = "file 20 3 pieces 8 3; flaw 5 10; break 2 1 7; cut 1 4; blame 2;";
    /** The same pieces and parts; both sources are right and nothing happens to them. */
    static final String PLAIN = "file 20 3 pieces 8 3;";
    /** (3 + 37 k + k k / 5) modulo 251, worked out by hand. */
    static final int[] BYTES = {3, 40, 77, 115, 154, 193, 232, 20, 60, 101, 142, 183, 224,
        15, 58, 101, 144, 187, 231, 25};
    /** Source 1 brings an error that no half shows, so that a run of both sources never ends. */
    static final String ENDLESS = "file 4 0 pieces 4 2; flaw 2 2; flaw 3 255;";
    static final String HEADER = "file 1 0 pieces 4 4;";

    interface Test {
        void run();
    }

    static void heading(String heading) {
        Doc.open(heading);
        about = heading;
    }

    /** Tests words of the document: a sentence, or the part of it that names one case. */
    static void says(String words, Test test) {
        Doc.quote(words);
        String before = about;
        about = before + " says: " + words + " -- ";
        int done = checks();
        try {
            test.run();
        } catch (RuntimeException e) {
            complain("it threw " + e);
        }
        if (checks() == done) {
            complain("nothing was checked");
        }
        about = before;
    }

    /** Words that name nothing of their own: the sentences around them are tested. */
    static void introduces(String words) {
        Doc.quote(words);
    }

    static void noIndex(String what, PieceTransfer x, Call call) {
        String before = glance(x);
        noIndex(what, call);
        equal(what + " changed", before, glance(x));
    }

    static void noArgument(String what, PieceTransfer x, Call call) {
        String before = glance(x);
        noArgument(what, call);
        equal(what + " changed", before, glance(x));
    }

    static void noState(String what, PieceTransfer x, Call call) {
        String before = glance(x);
        noState(what, call);
        equal(what + " changed", before, glance(x));
    }

    static void noElement(String what, PieceTransfer x, Call call) {
        String before = glance(x);
        noElement(what, call);
        equal(what + " changed", before, glance(x));
    }

    interface Asking {
        Object ask(int argument);
    }

    /** An index from 0 to size - 1: both ends are there, and nothing beyond them. */
    static void indexes(String what, PieceTransfer x, int size, Asking asking) {
        int[] outside = {-1, size, size + 1, Integer.MIN_VALUE, Integer.MAX_VALUE};
        String before = glance(x);
        for (int index : outside) {
            noIndex(what + " " + index, () -> asking.ask(index));
        }
        equal(what + " changed", before, glance(x));
        for (int index = 0; index < size; index += Math.max(1, size - 1)) {
            answers(what + " " + index, asking, index);
        }
    }

    /** An argument from the lowest to the highest: both are taken, and none beyond them. */
    static void range(String what, PieceTransfer x, int low, int high, Asking asking) {
        int[] outside = {low - 1, high + 1, -1 - high, Integer.MIN_VALUE, Integer.MAX_VALUE};
        String before = glance(x);
        for (int argument : outside) {
            noArgument(what + " " + argument, () -> asking.ask(argument));
        }
        equal(what + " changed", before, glance(x));
        answers(what + " " + low, asking, low);
        answers(what + " " + high, asking, high);
    }

    private static void answers(String what, Asking asking, int argument) {
        try {
            isTrue(what, asking.ask(argument) != null);
        } catch (RuntimeException e) {
            complain(what + " threw " + e);
        }
    }

    static void good(String text, int parts) {
        PieceTransfer x = new PieceTransfer();
        equal("load of " + text, parts, load(x, text));
        equal("errorPosition of " + text, -1, x.errorPosition());
    }

    static void bad(String text, int code, int where) {
        PieceTransfer x = new PieceTransfer();
        equal("load of " + text, code, load(x, text));
        equal("errorPosition of " + text, where, x.errorPosition());
    }

    /** A number in a text, from the lowest to the highest, where the text has an N. */
    static void numbers(String text, int low, int high) {
        int where = text.indexOf('N');
        for (int value : new int[] {low, high}) {
            PieceTransfer x = new PieceTransfer();
            String filled = text.replace("N", String.valueOf(value));
            isTrue(filled + " is read", load(x, filled) > 0);
        }
        for (long value : new long[] {low - 1L, high + 1L, (1L << 32) + low, Long.MAX_VALUE}) {
            if (value >= 0) {
                bad(text.replace("N", String.valueOf(value)), -3, where);
            }
        }
        if (high > 0) {
            bad(text.replace("N", String.valueOf(high) + "0"), -3, where);
        }
        bad(text.replace("N", "00" + (high + 1)), -3, where);
        bad(text.replace("N", "-1"), -2, where);
    }

    static void counts(String what, PieceTransfer x, int... want) {
        for (int k = 0; k < want.length; k++) {
            equal(what + ": count " + k, want[k], x.count(k));
        }
    }

    /** Brings a wrong piece 0 from source 1 and searches it. */
    static void catchOut(PieceTransfer x) {
        x.fetch(1, 0);
        x.search(0);
    }

    /** Partial files with the names 1 to 4 and the lengths 3, 8, 20 and 8; nothing is present. */
    static PieceTransfer four() {
        PieceTransfer x = loaded(PLAIN);
        x.fetch(0, 0);
        x.drop(1);
        x.keep(1);
        x.fetch(0, 0);
        x.keep(2);
        x.run(300);
        x.keep(3);
        x.fetch(0, 0);
        x.keep(4);
        return x;
    }

    static String names(PieceTransfer x) {
        StringBuilder names = new StringBuilder();
        for (int k = 0; k < x.count(8); k++) {
            names.append(k == 0 ? "" : " ").append(x.partial(k, 0));
        }
        return names.toString();
    }

    /** The origins of all parts. */
    static String origins(PieceTransfer x) {
        StringBuilder origins = new StringBuilder();
        for (int part = 0; part < x.count(2); part++) {
            int origin = x.part(part, 3);
            origins.append(origin < 0 ? "-" : String.valueOf(origin));
        }
        return origins.toString();
    }
}
