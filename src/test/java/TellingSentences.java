/** Promises 27 to 34, sentence by sentence. */
final class TellingSentences extends Sentences {
    static void test() {
        wrongBytes();
        differingParts();
        progress();
        event();
        events();
        writeMap();
        writtenByte();
        undo();
    }

    private static void wrongBytes() {
        heading("Promise 27");
        says("`int wrongBytes()`: Counts the bytes that have arrived and are other ones than those "
                + "of source 0.", () -> {
            PieceTransfer x = loaded("file 20 3 pieces 8 3;flaw 0 1;flaw 19 1;break 5 0 1;");
            equal("nothing has arrived", 0, x.wrongBytes());
            x.fetch(1, 0);
            equal("the first byte", 1, x.wrongBytes());
            x.fetch(1, 2);
            equal("the last byte, that is broken too", 2, x.wrongBytes());
            x.drop(0);
            equal("those of a missing part do not count", 1, x.wrongBytes());
            x.fetch(0, 0);
            equal("nor do right ones", 1, x.wrongBytes());
            PieceTransfer y = loaded("file 4 0 pieces 4 4;flaw 0 2;flaw 1 255;");
            y.fetch(1, 0);
            equal("in a good piece", 2, y.wrongBytes());
            y.keep(1);
            equal("not those that are kept", 0, y.wrongBytes());
            y.resume(0);
            equal("those of a kept file", 2, y.wrongBytes());
        });
        says("Returns the number of bytes.", () -> {
            StringBuilder text = new StringBuilder("file 12 0 pieces 12 5;");
            for (int place = 0; place < 12; place++) {
                text.append("flaw ").append(place).append(" 1;");
            }
            PieceTransfer x = loaded(text.toString());
            x.fetch(1, 0);
            equal("all", 12, x.wrongBytes());
        });
    }

    private static void differingParts() {
        heading("Promise 28");
        says("`int differingParts()`: Counts the parts in which both sources have different bytes.",
                () -> {
            equal("none", 0, loaded(PLAIN).differingParts());
            equal("the first place", 1, loaded(PLAIN + "flaw 0 1;").differingParts());
            equal("the last place of a part", 1, loaded(PLAIN + "flaw 2 1;").differingParts());
            equal("the last place", 1, loaded(PLAIN + "flaw 19 1;").differingParts());
            equal("two places of one part", 1,
                    loaded(PLAIN + "flaw 0 1;flaw 2 1;").differingParts());
            equal("two parts of one piece", 2,
                    loaded(PLAIN + "flaw 2 1;flaw 3 1;").differingParts());
            equal("the same checksum", 1,
                    loaded(PLAIN + "flaw 0 2;flaw 1 255;").differingParts());
            equal("flaws that make up for each other", 0,
                    loaded(PLAIN + "flaw 3 1;flaw 3 255;").differingParts());
            PieceTransfer x = loaded(PLAIN + "flaw 0 1;break 1 0 1;break 2 0 1;");
            x.fetch(0, 0);
            equal("what has arrived does not matter", 1, x.differingParts());
        });
        says("Returns the number of parts.", () -> {
            StringBuilder text = new StringBuilder("file 12 0 pieces 4 1;");
            for (int place = 0; place < 12; place++) {
                text.append("flaw ").append(place).append(" 1;");
            }
            equal("all", 12, loaded(text.toString()).differingParts());
        });
    }

    private static void progress() {
        heading("Promise 29");
        says("`float progress()`: Returns the part of all bytes that are in good pieces: their "
                + "number and L, converted to float and divided.", () -> {
            PieceTransfer x = loaded("file 20 3 pieces 8 3;flaw 0 1;");
            equal("nothing has arrived", 0.0f, x.progress());
            x.fetch(1, 0);
            equal("in a suspect piece", 0.0f, x.progress());
            x.fetch(0, 2);
            equal("the shorter piece", 4.0f / 20.0f, x.progress());
            x.fetch(0, 1);
            equal("two pieces", 12.0f / 20.0f, x.progress());
            x.drop(7);
            equal("one that lacks a part", 8.0f / 20.0f, x.progress());
            x.run(300);
            equal("all", 1.0f, x.progress());
            PieceTransfer y = loaded("file 4 0 pieces 4 4;flaw 0 2;flaw 1 255;");
            y.fetch(1, 0);
            equal("wrong bytes in a good piece", 1.0f, y.progress());
        });
        says("Returns the quotient.", () -> {
            PieceTransfer x = loaded("file 239 0 pieces 4 4;");
            for (int piece = 0; piece < 60; piece++) {
                equal(piece + " pieces", (float) (4 * piece) / (float) 239, x.progress());
                x.fetch(0, piece);
            }
            equal("all", 1.0f, x.progress());
        });
    }

    private static void event() {
        heading("Promise 30");
        introduces("`int event(int back, int what) throws IndexOutOfBoundsException, "
                + "IllegalArgumentException`: Returns a number of an event of the audit.");
        says("- `back`: 0 for the latest event, 1 for the one before, and so on", () -> {
            PieceTransfer x = loaded(PLAIN);
            x.fetch(1, 0);
            equal("the latest one is the judgement", 1, x.event(0, 0));
            equal("the one before", 2, x.event(1, 1));
            equal("the first one", 0, x.event(3, 1));
            indexes("of four", x, 4, back -> x.event(back, 0));
            PieceTransfer y = loaded("file 48 0 pieces 48 1;");
            y.fetch(0, 0);
            indexes("of 49", y, 40, back -> y.event(back, 0));
            equal("the oldest of 40", 9, y.event(39, 1));
            y.drop(0);
            y.fetch(0, 0);
            equal("the oldest of 40 behind two more", 11, y.event(39, 1));
        });
        says("- `what`: 0: its kind; 1: its first number; 2: its second number", () -> {
            PieceTransfer x = loaded(PLAIN);
            x.fetch(1, 0);
            x.keep(77);
            equal("kind", 7, x.event(0, 0));
            equal("first number", 77, x.event(0, 1));
            equal("second number", 8, x.event(0, 2));
            equal("second number of an arrival", 1, x.event(2, 2));
        });
        introduces("Returns the requested number.");
        says("Throws `IndexOutOfBoundsException` if the audit has no such event", () -> {
            PieceTransfer x = loaded("file 48 0 pieces 48 1;");
            noIndex("0 of none", x, () -> x.event(0, 0));
            noIndex("0 of none, and no what", x, () -> x.event(0, 3));
            x.run(1);
            noIndex("2 of 2", x, () -> x.event(2, 0));
            x.run(300);
            noIndex("40 of 49", x, () -> x.event(40, 0));
            noIndex("48 of 49", x, () -> x.event(48, 0));
            noIndex("-1, and no what", x, () -> x.event(-1, -1));
            load(x, PLAIN);
            noIndex("0 behind a load", x, () -> x.event(0, 0));
        });
        says("Throws `IllegalArgumentException` for any other what", () -> {
            PieceTransfer x = loaded(PLAIN);
            x.fetch(1, 0);
            range("what", x, 0, 2, what -> x.event(3, what));
        });
    }

    private static void events() {
        heading("Promise 31");
        says("`int events(int kind) throws IllegalArgumentException`: Counts the events of a kind "
                + "that the audit has.", () -> {
            PieceTransfer x = loaded("file 48 0 pieces 24 1;");
            x.connect(1, false);
            x.run(24);
            equal("of 25", 24, x.events(0));
            equal("the judgement", 1, x.events(1));
            x.run(15);
            equal("of 40", 39, x.events(0));
            x.run(1);
            equal("of 41 that there were", 39, x.events(0));
            x.run(300);
            equal("of 50 that there were", 38, x.events(0));
            equal("both judgements", 2, x.events(1));
            PieceTransfer y = loaded("file 12 0 pieces 4 1;break 1 0 1;blame 1;");
            y.fetch(0, 0);
            equal("suspect", 1, y.events(2));
            for (int round = 0; round < 10; round++) {
                y.drop(1);
                y.drop(2);
                y.drop(3);
                y.fetch(0, 0);
            }
            equal("the first judgement is not lost alone", 10, y.events(2));
        });
        says("- `kind`: 0 to 8", () -> {
            PieceTransfer x = loaded("file 12 0 pieces 4 2;flaw 0 1;flaw 10 2;flaw 11 255;"
                    + "cut 1 4;blame 1;");
            x.fetch(1, 0);
            x.fetch(1, 2);
            x.search(0);
            x.search(2);
            x.fetch(0, 0);
            x.keep(1);
            x.resume(0);
            int[] want = {5, 2, 2, 1, 1, 1, 1, 1, 1};
            for (int kind = 0; kind <= 8; kind++) {
                equal("kind " + kind, want[kind], x.events(kind));
            }
            range("kind", x, 0, 8, kind -> x.events(kind));
        });
        says("Returns the number of events.", () -> {
            PieceTransfer x = loaded(PLAIN);
            for (int kind = 0; kind <= 8; kind++) {
                equal("none of kind " + kind, 0, x.events(kind));
            }
            x.run(1);
            equal("two", 2, x.events(0));
        });
        says("Throws `IllegalArgumentException` if kind is out of range", () -> {
            PieceTransfer x = loaded(PLAIN);
            noArgument("9", x, () -> x.events(9));
            noArgument("-1", x, () -> x.events(-1));
        });
    }

    private static void writeMap() {
        heading("Promise 32");
        introduces("`int writeMap()`:");
        says("Writes a map of the pieces, in place of what was written before:", () -> {
            PieceTransfer x = loaded(PLAIN);
            x.writeMap();
            x.fetch(0, 0);
            equal("as it was written", "...", written(x));
            x.writeMap();
            equal("in its place", "G..", written(x));
            load(x, HEADER);
            x.writeMap();
            equal("shorter", ".", written(x));
            load(x, "file 240 0 pieces 4 4;");
            x.writeMap();
            equal("longer", ".".repeat(60), written(x));
        });
        says("for each piece G if it is good, S if it is suspect, a point if all its parts are "
                + "missing,", () -> {
            PieceTransfer x = loaded("file 20 3 pieces 8 3;flaw 8 1;");
            equal("points", "...", map(x));
            x.fetch(0, 0);
            x.fetch(1, 1);
            equal("one of each", "GS.", map(x));
            equal("G", 71, x.writtenByte(0));
            equal("S", 83, x.writtenByte(1));
            equal("point", 46, x.writtenByte(2));
            x.keep(1);
            equal("points again", "...", map(x));
            x.resume(0);
            equal("resumed", "GS.", map(x));
            PieceTransfer y = new PieceTransfer();
            equal("a single part", ".", map(y));
            y.run(1);
            equal("a single part is there", "G", map(y));
        });
        says("otherwise the number of its missing parts modulo 10.", () -> {
            PieceTransfer x = loaded("file 48 0 pieces 48 1;");
            x.connect(1, false);
            for (int missing = 47; missing >= 1; missing--) {
                x.run(1);
                equal(missing + " are missing", String.valueOf(missing % 10), map(x));
            }
            x.run(1);
            equal("none", "G", map(x));
            PieceTransfer y = loaded(PLAIN);
            y.run(300);
            y.drop(0);
            y.drop(1);
            y.drop(6);
            equal("of each piece by itself", "2G1", map(y));
        });
        says("Returns the length of the text.", () -> {
            equal("the shortest", 1, new PieceTransfer().writeMap());
            equal("ordinary", 3, loaded(PLAIN).writeMap());
            equal("the longest", 60, loaded("file 240 0 pieces 4 4;").writeMap());
        });
    }

    private static void writtenByte() {
        heading("Promise 33");
        says("`int writtenByte(int index) throws IndexOutOfBoundsException`: Returns a byte of the "
                + "text that was written last; there is none at first.", () -> {
            PieceTransfer x = loaded(PLAIN);
            noIndex("none at first", x, () -> x.writtenByte(0));
            x.writeMap();
            x.run(300);
            load(x, HEADER);
            equal("written before all that", '.', x.writtenByte(2));
        });
        says("- `index`: 0 for the first byte", () -> {
            PieceTransfer x = loaded("file 240 0 pieces 4 4;");
            x.fetch(0, 0);
            x.fetch(0, 59);
            x.drop(59);
            x.fetch(0, 58);
            x.writeMap();
            indexes("of 60", x, 60, index -> x.writtenByte(index));
            equal("the first one", 'G', x.writtenByte(0));
            equal("the last one but one", 'G', x.writtenByte(58));
            equal("the last one", '.', x.writtenByte(59));
        });
        introduces("Returns the byte.");
        says("Throws `IndexOutOfBoundsException` if there is no such byte", () -> {
            PieceTransfer x = loaded(PLAIN);
            noIndex("0 of none", x, () -> x.writtenByte(0));
            x.writeMap();
            noIndex("3 of 3", x, () -> x.writtenByte(3));
            noIndex("-1", x, () -> x.writtenByte(-1));
            load(x, HEADER);
            x.writeMap();
            noIndex("1 of 1, though there were 3", x, () -> x.writtenByte(1));
        });
    }

    private static void undo() {
        heading("Promise 34");
        says("`int undo() throws IllegalStateException`: Undoes the latest change that has not "
                + "been undone.", () -> {
            PieceTransfer x = loaded(PLAIN);
            x.fetch(0, 0);
            x.fetch(0, 1);
            x.fetch(0, 2);
            x.undo();
            equal("the third one", "000000--", origins(x));
            x.undo();
            equal("the second one", "000-----", origins(x));
            x.fetch(1, 2);
            x.undo();
            equal("a new one", "000-----", origins(x));
            x.undo();
            equal("the first one", "--------", origins(x));
            x.undo();
            equal("the load", 1, x.count(0));
        });
        says("Returns the number of changes that can still be undone.", () -> {
            PieceTransfer x = new PieceTransfer();
            for (int k = 0; k < 12; k++) {
                x.run(1);
            }
            for (int left = 7; left >= 4; left--) {
                equal("left", left, x.undo());
            }
            x.run(1);
            x.run(1);
            equal("four and two", 5, x.undo());
            for (int k = 0; k < 3; k++) {
                x.run(1);
            }
            for (int left = 7; left >= 0; left--) {
                equal("eight again", left, x.undo());
            }
        });
        says("Throws `IllegalStateException` if there is no change to undo", () -> {
            PieceTransfer x = new PieceTransfer();
            noState("none at first", x, () -> x.undo());
            x.run(1);
            equal("one", 0, x.undo());
            noState("undone", x, () -> x.undo());
            for (int k = 0; k < 9; k++) {
                x.connect(0, k % 2 == 1);
            }
            for (int k = 0; k < 8; k++) {
                x.undo();
            }
            noState("the ninth one is too old", x, () -> x.undo());
            equal("it stays", 0, x.source(0, 0));
        });
    }
}
