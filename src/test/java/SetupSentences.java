/** Promises 1 to 11, sentence by sentence. */
final class SetupSentences extends Sentences {
    static void test() {
        newObject();
        append();
        load();
        loadedLengths();
        errorPosition();
        count();
        source();
        sent();
        got();
        piece();
        part();
        checksum();
    }

    private static void newObject() {
        heading("Promise 1");
        says("`PieceTransfer()`: Creates a transfer as by the text \"file 1 0 pieces 4 4;\",",
                () -> {
            PieceTransfer x = new PieceTransfer();
            PieceTransfer y = loaded(HEADER);
            equal("all that can be told", state(y), state(x));
            counts("new", x, 1, 1, 1, 0, 0, 0, 0, 1, 0, 0, 0, 3);
            equal("no error", -1, x.errorPosition());
            equal("nothing is written", "", written(x));
            noState("no change", x, () -> x.undo());
            equal("one part", 1, x.run(300));
            equal("of one byte", 0, x.got(0));
        });
        says("with an empty text buffer.", () -> {
            PieceTransfer x = new PieceTransfer();
            noArgument("load", x, () -> x.load(1));
            equal("append", 20, x.append(0, 0, 0, 0, 0));
        });
    }

    private static void append() {
        heading("Promise 2");
        introduces("`int append(int a, int b, int c, int d, int e) throws IllegalStateException`:");
        says("Appends 20 bytes to the text buffer:", () -> {
            PieceTransfer x = new PieceTransfer();
            append(x, "file 9 0 pieces 4 4;");
            append(x, "blame 9;blame 88;");
            noArgument("41", x, () -> x.load(41));
            equal("behind those before", 3, x.load(40));
            equal("both are read", 88, x.count(11));
        });
        says("the four bytes of each argument in order, the most significant byte first.", () -> {
            PieceTransfer x = new PieceTransfer();
            // "file 5 0 pieces 4 4;"
            x.append(0x66696c65, 0x20352030, 0x20706965, 0x63657320, 0x3420343b);
            equal("read", 2, x.load(20));
            equal("its length", 5, x.count(0));
        });
        byteOf("- `a`: first four bytes", 0);
        byteOf("- `b`: next four bytes", 1);
        byteOf("- `c`: next four bytes", 2);
        byteOf("- `d`: next four bytes", 3);
        byteOf("- `e`: last four bytes", 4);
        says("Returns the new length of the buffer.", () -> {
            PieceTransfer x = new PieceTransfer();
            for (int k = 1; k <= 20; k++) {
                equal("append " + k, 20 * k, x.append(-1, -1, -1, -1, -1));
            }
            x.load(7);
            equal("behind a load", 20, x.append(0, 0, 0, 0, 0));
        });
        says("Throws `IllegalStateException` if the length would exceed 400", () -> {
            PieceTransfer x = new PieceTransfer();
            append(x, " ".repeat(380));
            equal("just 400", 400, x.append(0x20202020, 0x20202020, 0x20202020, 0x20202020, 0x21));
            noState("420", x, () -> x.append(0, 0, 0, 0, 0));
            noState("again", x, () -> x.append(0, 0, 0, 0, 0));
            equal("nothing was appended", -2, x.load(400));
            equal("the last byte but three", 396, x.errorPosition());
        });
    }

    /** All bytes are spaces but one; it is an error at its place, whatever its highest bit is. */
    private static void byteOf(String words, int argument) {
        says(words, () -> {
            for (int k = 0; k < 4; k++) {
                for (int value : new int[] {0, 0x21, 0x7f, 0x80, 0xa0, 0xff}) {
                    int[] five = {0x20202020, 0x20202020, 0x20202020, 0x20202020, 0x20202020};
                    int shift = 24 - 8 * k;
                    five[argument] = five[argument] & ~(255 << shift) | value << shift;
                    PieceTransfer x = new PieceTransfer();
                    x.append(five[0], five[1], five[2], five[3], five[4]);
                    equal("byte " + k + " as " + value, -2, x.load(20));
                    equal("its place", 4 * argument + k, x.errorPosition());
                }
            }
        });
    }

    private static void load() {
        heading("Promise 3");
        introduces("`int load(int length) throws IllegalArgumentException`:");
        says("Reads the first bytes of the text buffer as a transfer.", () -> {
            PieceTransfer x = new PieceTransfer();
            append(x, "file 9 0 pieces 4 4;blame 9;");
            equal("the first 20", 3, x.load(20));
            equal("not the others", 3, x.count(11));
            append(x, "file 9 0 pieces 4 4;blame 9;");
            equal("the first 28", 3, x.load(28));
            equal("the others too", 9, x.count(11));
            append(x, "file 99 0 pieces 4 4;");
            equal("the first 19", -2, x.load(19));
            equal("a number ends there", 19, x.errorPosition());
        });
        says("If the text has no error, it replaces the present one: all parts are missing, there "
                + "are no partial files and no events, all counts are 0.", () -> {
            PieceTransfer x = loaded("file 20 3 pieces 8 3;flaw 0 1;break 8 0 1;cut 0 5;blame 1;");
            catchOut(x);
            x.fetch(0, 0);
            x.keep(1);
            x.run(1);
            x.connect(0, false);
            counts("before", x, 20, 3, 8, 5, 4, 0, 0, 7, 1);
            isTrue("events", x.count(9) > 0);
            load(x, PLAIN);
            counts("then", x, 20, 3, 8, 0, 0, 0, 0, 8, 0, 0, 0, 3);
            equal("as in a new object", state(loaded(PLAIN)), state(x));
            noIndex("no event", x, () -> x.event(0, 0));
            noIndex("no partial file", x, () -> x.partial(0, 0));
            equal("numbered from 1, without breaks and cuts", 4, x.run(300));
            equal("from 0", 20, x.keep(1));
        });
        says("In case of an error the present one stays.", () -> {
            for (String text : new String[] {"", "file 1 0 pieces 4 4", "file 0", "file 9 0 pieces",
                HEADER + "cut 0 1;".repeat(9), HEADER + "blame 7;flaw 1 1;", HEADER + "blame 7"}) {
                PieceTransfer x = four();
                x.fetch(1, 0);
                x.connect(0, false);
                String before = state(x);
                isTrue("an error in " + text, load(x, text) < 0);
                equal("the present one behind " + text, before, state(x));
            }
        });
        says("The buffer is empty afterwards in both cases.", () -> {
            PieceTransfer x = new PieceTransfer();
            append(x, HEADER + "blame 9;");
            equal("without an error", 1, x.load(20));
            noArgument("nothing is left", x, () -> x.load(1));
            append(x, HEADER);
            equal("with an error", -2, x.load(3));
            noArgument("nothing is left then", x, () -> x.load(1));
            equal("from its start again", 20, x.append(0, 0, 0, 0, 0));
        });
    }

    private static void loadedLengths() {
        says("- `length`: number of bytes, 0 to the length of the buffer", () -> {
            PieceTransfer x = new PieceTransfer();
            equal("0 of 0", -2, x.load(0));
            append(x, HEADER);
            equal("0 of 20", -2, x.load(0));
            equal("at 0", 0, x.errorPosition());
            append(x, HEADER);
            equal("20 of 20", 1, x.load(20));
            append(x, " ".repeat(400));
            equal("400 of 400", -2, x.load(400));
        });
        says("Returns the number of parts, or the error code.", () -> {
            equal("parts of the shortest", 1, load(new PieceTransfer(), HEADER));
            equal("parts, not pieces", 8, load(new PieceTransfer(), PLAIN));
            equal("the most parts", 240, load(new PieceTransfer(), "file 240 0 pieces 4 1;"));
            equal("SYNTAX_ERROR", -2, load(new PieceTransfer(), "file"));
            equal("VALUE_ERROR", -3, load(new PieceTransfer(), "file 0"));
            equal("TOO_MANY", -4, load(new PieceTransfer(), HEADER + "cut 0 1;".repeat(9)));
        });
        says("Throws `IllegalArgumentException` if length is out of range", () -> {
            PieceTransfer x = new PieceTransfer();
            noArgument("1 of 0", x, () -> x.load(1));
            append(x, HEADER);
            int[] outside = {-1, 21, 40, 400, Integer.MIN_VALUE, Integer.MAX_VALUE};
            for (int length : outside) {
                noArgument("" + length, x, () -> x.load(length));
            }
            equal("the buffer is not emptied", 1, x.load(20));
        });
    }

    private static void errorPosition() {
        heading("Promise 4");
        introduces("`int errorPosition()`:");
        says("Returns the position of the error that the latest call of load found.", () -> {
            PieceTransfer x = new PieceTransfer();
            load(x, "file 0");
            equal("the first call", 5, x.errorPosition());
            load(x, "file 1 1000");
            equal("the latest call", 7, x.errorPosition());
            load(x, "");
            equal("at 0", 0, x.errorPosition());
            load(x, " ".repeat(400));
            equal("at 400", 400, x.errorPosition());
            noArgument("a refused call", x, () -> x.load(1));
            x.run(1);
            equal("found none of its own", 400, x.errorPosition());
        });
        says("Returns the position; NONE if it found no error or if there was no call.", () -> {
            PieceTransfer x = new PieceTransfer();
            equal("no call", -1, x.errorPosition());
            noArgument("a refused call", x, () -> x.load(1));
            equal("still no call", -1, x.errorPosition());
            load(x, "file 0");
            load(x, HEADER);
            equal("no error", -1, x.errorPosition());
        });
    }

    private static void count() {
        heading("Promise 5");
        introduces("`int count(int what) throws IllegalArgumentException`: Returns a number of the "
                + "whole.");
        says("- `what`: 0: L; 1: pieces; 2: parts;", () -> {
            counts("least", new PieceTransfer(), 1, 1, 1);
            counts("ordinary", loaded(PLAIN), 20, 3, 8);
            counts("most", loaded("file 240 0 pieces 4 1;"), 240, 60, 240);
        });
        says("3: transfers so far;", () -> {
            PieceTransfer x = loaded("file 20 3 pieces 8 3;cut 1 2;");
            equal("none", 0, x.count(3));
            x.fetch(0, 0);
            x.fetch(1, 1);
            equal("of both sources", 5, x.count(3));
            x.keep(1);
            x.resume(0);
            x.drop(0);
            equal("neither by resume nor by drop", 5, x.count(3));
        });
        countsOfSearches();
        countsOfPieces();
        introduces("Returns the requested number.");
        says("Throws `IllegalArgumentException` for any other what", () -> {
            PieceTransfer x = loaded(TEXT);
            range("what", x, 0, 11, what -> x.count(what));
        });
    }

    private static void countsOfSearches() {
        says("4: queries so far;", () -> {
            PieceTransfer x = loaded("file 6 0 pieces 6 2;flaw 0 1;flaw 4 1;");
            equal("none", 0, x.count(4));
            x.fetch(1, 0);
            x.queriesFor(0);
            equal("not by queriesFor", 0, x.count(4));
            x.search(0);
            equal("2 of the piece, 2 of its first half", 4, x.count(4));
            x.run(1);
            equal("and 2 in a run", 6, x.count(4));
        });
        says("10: parts that were dropped by searches so far (also those of whole pieces);", () -> {
            PieceTransfer x = loaded("file 8 0 pieces 4 2;flaw 0 1;flaw 6 2;flaw 7 255;");
            x.fetch(1, 0);
            x.fetch(1, 1);
            equal("none", 0, x.count(10));
            x.drop(3);
            x.fetch(1, 1);
            equal("not by drop", 0, x.count(10));
            x.search(0);
            equal("one that was wrong", 1, x.count(10));
            x.search(1);
            equal("two of a whole piece", 3, x.count(10));
        });
        says("9: events that there ever were;", () -> {
            PieceTransfer x = loaded("file 48 0 pieces 48 1;");
            equal("none", 0, x.count(9));
            x.fetch(0, 0);
            equal("more than the audit has", 49, x.count(9));
            x.undo();
            equal("undone", 0, x.count(9));
        });
        says("11: the blame limit", () -> {
            equal("3 without it", 3, loaded(HEADER).count(11));
            equal("99", 99, loaded(HEADER + "blame 99;").count(11));
        });
    }

    private static void countsOfPieces() {
        says("5: good pieces; 6: suspect pieces;", () -> {
            PieceTransfer x = loaded("file 12 0 pieces 4 2;flaw 0 1;flaw 4 1;blame 9;");
            x.fetch(1, 0);
            x.fetch(1, 1);
            x.fetch(1, 2);
            equal("one is good", 1, x.count(5));
            equal("two are suspect", 2, x.count(6));
            x.search(0);
            equal("good behind a search", 1, x.count(5));
            equal("suspect behind a search", 1, x.count(6));
            x.fetch(0, 0);
            equal("good behind a fetch", 2, x.count(5));
            x.drop(2);
            x.drop(3);
            equal("suspect behind drops", 0, x.count(6));
            x.drop(5);
            x.drop(4);
            equal("good behind drops", 1, x.count(5));
            x.keep(1);
            equal("none behind keep", 0, x.count(5));
            x.resume(0);
            equal("one behind resume", 1, x.count(5));
        });
        says("7: missing parts;", () -> {
            PieceTransfer x = loaded("file 8 0 pieces 4 2;flaw 2 2;flaw 3 255;");
            equal("all", 4, x.count(7));
            x.fetch(1, 1);
            equal("two", 2, x.count(7));
            x.fetch(1, 0);
            equal("none", 0, x.count(7));
            x.search(0);
            equal("those of a whole piece", 2, x.count(7));
            x.drop(2);
            equal("one more", 3, x.count(7));
        });
        says("8: partial files;", () -> {
            PieceTransfer x = four();
            equal("four", 4, x.count(8));
            x.discard(0);
            equal("discarded", 3, x.count(8));
            x.resume(0);
            equal("resumed", 2, x.count(8));
            x.undo();
            equal("undone", 3, x.count(8));
        });
    }

    private static void numbers(String what, PieceTransfer x, int source, int... want) {
        for (int k = 0; k < want.length; k++) {
            equal(what + ": source " + source + ", " + k, want[k], x.source(source, k));
        }
    }

    private static void source() {
        heading("Promise 6");
        introduces("`int source(int source, int what) throws IndexOutOfBoundsException, "
                + "IllegalArgumentException`: Returns a number of a source.");
        says("- `source`: 0 or 1", () -> {
            PieceTransfer x = loaded(PLAIN);
            x.fetch(0, 0);
            x.connect(1, false);
            numbers("told apart", x, 0, 1, 0, 3, 0, 3);
            numbers("told apart", x, 1, 0, 0, 0, 0, 0);
        });
        says("- `what`: 0: 1 if it is connected, otherwise 0; 1: 1 if it is banned, otherwise 0;",
                () -> {
            PieceTransfer x = loaded("file 4 0 pieces 4 4;flaw 0 1;blame 1;");
            numbers("at first", x, 1, 1, 0);
            x.connect(1, false);
            numbers("off", x, 1, 0, 0);
            x.connect(1, true);
            catchOut(x);
            numbers("banned", x, 1, 0, 1);
            numbers("never banned", x, 0, 1, 0);
        });
        says("2: the parts that it has sent; 3: its blame;", () -> {
            PieceTransfer x = loaded("file 8 0 pieces 4 2;flaw 4 1;break 1 0 1;");
            x.fetch(0, 0);
            x.fetch(1, 1);
            numbers("sent", x, 0, 1, 0, 2, 0);
            numbers("sent", x, 1, 1, 0, 2, 0);
            x.search(0);
            x.search(1);
            numbers("blamed", x, 0, 1, 0, 2, 1);
            numbers("blamed", x, 1, 1, 0, 2, 1);
            x.fetch(1, 0);
            numbers("sent again", x, 1, 1, 0, 3, 1);
            x.keep(1);
            numbers("sent stays", x, 1, 1, 0, 3, 1);
        });
        says("4: the present parts whose origin it is", () -> {
            PieceTransfer x = loaded(PLAIN);
            numbers("none", x, 0, 1, 0, 0, 0, 0);
            x.fetch(0, 0);
            x.fetch(1, 1);
            x.fetch(1, 2);
            x.drop(5);
            numbers("three", x, 0, 1, 0, 3, 0, 3);
            numbers("five but one", x, 1, 1, 0, 5, 0, 4);
            x.keep(1);
            x.resume(0);
            numbers("of a kept file", x, 1, 1, 0, 5, 0, 0);
        });
        introduces("Returns the requested number.");
        says("Throws `IndexOutOfBoundsException` if the source does not exist", () -> {
            PieceTransfer x = loaded(PLAIN);
            for (int what = -1; what <= 5; what++) {
                int one = what;
                noIndex("-1", () -> x.source(-1, one));
                noIndex("2", () -> x.source(2, one));
            }
            indexes("source", x, 2, source -> x.source(source, 0));
        });
        says("Throws `IllegalArgumentException` for any other what", () -> {
            PieceTransfer x = loaded(PLAIN);
            range("what of source 0", x, 0, 4, what -> x.source(0, what));
            range("what of source 1", x, 0, 4, what -> x.source(1, what));
        });
    }

    private static void sent() {
        heading("Promise 7");
        says("`int sent(int source, int place) throws IndexOutOfBoundsException`: Returns a byte "
                + "that a source has.", () -> {
            PieceTransfer x = loaded("file 20 3 pieces 8 3;flaw 5 10;break 1 0 9;");
            x.fetch(0, 0);
            equal("no break", 3, x.sent(0, 0));
            equal("no flaw", 193, x.sent(0, 5));
            equal("a flaw", 203, x.sent(1, 5));
        });
        says("- `source`: 0 or 1", () -> {
            PieceTransfer x = loaded(PLAIN);
            indexes("source", x, 2, source -> x.sent(source, 0));
        });
        says("- `place`: 0 to L - 1", () -> {
            for (int length : new int[] {1, 5, 240}) {
                PieceTransfer x = loaded("file " + length + " 0 pieces 4 4;");
                indexes("of source 0", x, length, place -> x.sent(0, place));
                indexes("of source 1", x, length, place -> x.sent(1, place));
            }
        });
        says("Returns the byte.", () -> {
            PieceTransfer x = loaded("file 3 250 pieces 4 1;flaw 0 5;flaw 1 220;");
            equal("255", 255, x.sent(1, 0));
            equal("0", 0, x.sent(1, 1));
        });
        says("Throws `IndexOutOfBoundsException` if the source or the place does not exist", () -> {
            PieceTransfer x = loaded(PLAIN);
            noIndex("no source", x, () -> x.sent(2, 0));
            noIndex("no place", x, () -> x.sent(1, 20));
            noIndex("neither", x, () -> x.sent(-1, -1));
        });
    }

    private static void got() {
        heading("Promise 8");
        introduces("`int got(int place) throws IndexOutOfBoundsException`: Returns a byte that has "
                + "arrived.");
        says("- `place`: 0 to L - 1", () -> {
            for (int length : new int[] {1, 5, 240}) {
                PieceTransfer x = loaded("file " + length + " 0 pieces 4 4;");
                indexes("of what is missing", x, length, place -> x.got(place));
                x.run(300);
                indexes("of what is there", x, length, place -> x.got(place));
            }
        });
        says("Returns the byte; NONE if its part is missing.", () -> {
            PieceTransfer x = loaded(PLAIN);
            x.fetch(0, 0);
            x.fetch(0, 1);
            x.drop(2);
            x.drop(4);
            int[] want = {3, 40, 77, 115, 154, 193, -1, -1, 60, 101, 142, -1, -1, -1, 58, 101, -1,
                -1, -1, -1};
            for (int place = 0; place < 20; place++) {
                equal("place " + place, want[place], x.got(place));
            }
            PieceTransfer y = loaded("file 1 0 pieces 4 4;");
            y.run(1);
            equal("the byte 0 is there", 0, y.got(0));
        });
        says("Throws `IndexOutOfBoundsException` if the place does not exist", () -> {
            PieceTransfer x = loaded("file 21 0 pieces 8 3;");
            noIndex("21", x, () -> x.got(21));
            noIndex("-1", x, () -> x.got(-1));
        });
    }

    private static void row(String what, int[] want, Asking asking) {
        for (int k = 0; k < want.length; k++) {
            equal(what + " " + k, String.valueOf(want[k]), String.valueOf(asking.ask(k)));
        }
    }

    private static void piece() {
        heading("Promise 9");
        introduces("`int piece(int piece, int what) throws IndexOutOfBoundsException, "
                + "IllegalArgumentException`: Returns a number of a piece.");
        says("- `piece`: number of a piece", () -> {
            PieceTransfer x = loaded("file 240 0 pieces 4 4;");
            indexes("60 pieces", x, 60, piece -> x.piece(piece, 6));
            PieceTransfer y = new PieceTransfer();
            indexes("one piece", y, 1, piece -> y.piece(piece, 6));
        });
        says("- `what`: 0: the place of its first byte; 1: its length; 2: its first part; 3: its "
                + "parts;", () -> {
            PieceTransfer x = loaded(PLAIN);
            row("the first one", new int[] {0, 8, 0, 3}, what -> x.piece(0, what));
            row("the second one", new int[] {8, 8, 3, 3}, what -> x.piece(1, what));
            row("the shorter one", new int[] {16, 4, 6, 2}, what -> x.piece(2, what));
            PieceTransfer y = new PieceTransfer();
            row("shorter than P and Q", new int[] {0, 1, 0, 1}, what -> y.piece(0, what));
        });
        says("4: its missing parts;", () -> {
            PieceTransfer x = loaded(PLAIN);
            equal("all", 3, x.piece(1, 4));
            x.fetch(0, 1);
            equal("none", 0, x.piece(1, 4));
            equal("not those of another one", 3, x.piece(0, 4));
            x.drop(5);
            equal("one", 1, x.piece(1, 4));
            equal("all of the shorter one", 2, x.piece(2, 4));
        });
        says("5: its checksum in the manifest;", () -> {
            PieceTransfer x = loaded("file 20 3 pieces 8 3;flaw 0 1;");
            equal("piece 0", 4486, x.piece(0, 5));
            x.fetch(1, 0);
            equal("not of what has arrived", 4486, x.piece(0, 5));
            equal("piece 1", 3844, x.piece(1, 5));
            equal("piece 2", 1311, x.piece(2, 5));
        });
        says("6: 0 as long as a part is missing, 1 if it is good, 2 if it is suspect", () -> {
            PieceTransfer x = loaded("file 20 3 pieces 8 3;flaw 0 1;cut 1 2;");
            x.fetch(1, 0);
            equal("one is missing", 0, x.piece(0, 6));
            x.fetch(0, 0);
            equal("suspect", 2, x.piece(0, 6));
            x.search(0);
            equal("one was dropped", 0, x.piece(0, 6));
            x.fetch(0, 0);
            equal("good", 1, x.piece(0, 6));
            x.drop(2);
            equal("one is missing again", 0, x.piece(0, 6));
            equal("all are missing", 0, x.piece(1, 6));
        });
        introduces("Returns the requested number.");
        says("Throws `IndexOutOfBoundsException` if the piece does not exist", () -> {
            PieceTransfer x = loaded(PLAIN);
            for (int what = -1; what <= 7; what++) {
                int one = what;
                noIndex("3", () -> x.piece(3, one));
                noIndex("-1", () -> x.piece(-1, one));
            }
        });
        says("Throws `IllegalArgumentException` for any other what", () -> {
            PieceTransfer x = loaded(PLAIN);
            range("what", x, 0, 6, what -> x.piece(2, what));
        });
    }

    private static void part() {
        heading("Promise 10");
        introduces("`int part(int part, int what) throws IndexOutOfBoundsException, "
                + "IllegalArgumentException`: Returns a number of a part.");
        says("- `part`: number of a part", () -> {
            PieceTransfer x = loaded("file 240 0 pieces 4 1;");
            indexes("240 parts", x, 240, part -> x.part(part, 4));
            PieceTransfer y = new PieceTransfer();
            indexes("one part", y, 1, part -> y.part(part, 4));
        });
        says("- `what`: 0: the place of its first byte; 1: its length; 2: its piece;", () -> {
            PieceTransfer x = loaded(PLAIN);
            row("the first one", new int[] {0, 3, 0}, what -> x.part(0, what));
            row("the shorter one of a piece", new int[] {6, 2, 0}, what -> x.part(2, what));
            row("the first one of the next piece", new int[] {8, 3, 1}, what -> x.part(3, what));
            row("the last one", new int[] {19, 1, 2}, what -> x.part(7, what));
            PieceTransfer y = new PieceTransfer();
            row("shorter than P and Q", new int[] {0, 1, 0}, what -> y.part(0, what));
        });
        says("3: its origin (NONE if it is missing);", () -> {
            PieceTransfer x = loaded(PLAIN);
            equal("missing", -1, x.part(0, 3));
            x.fetch(0, 0);
            equal("source 0", 0, x.part(0, 3));
            x.drop(0);
            equal("missing again", -1, x.part(0, 3));
            x.fetch(1, 0);
            equal("source 1", 1, x.part(0, 3));
            x.keep(1);
            equal("kept", -1, x.part(0, 3));
            x.resume(0);
            equal("resumed", 2, x.part(0, 3));
        });
        says("4: how many of its bytes are other ones than those of source 0 (0 if it is missing)",
                () -> {
            PieceTransfer x = loaded("file 20 3 pieces 8 3;flaw 3 1;flaw 5 2;flaw 6 3;flaw 6 253;");
            equal("missing at first", 0, x.part(1, 4));
            x.fetch(1, 0);
            equal("none", 0, x.part(0, 4));
            equal("the first and the last one", 2, x.part(1, 4));
            equal("flaws that make up for each other", 0, x.part(2, 4));
            x.drop(1);
            equal("missing again", 0, x.part(1, 4));
            PieceTransfer y = loaded("file 4 0 pieces 4 4;flaw 0 1;flaw 1 1;flaw 2 1;flaw 3 1;");
            y.fetch(1, 0);
            equal("all", 4, y.part(0, 4));
        });
        introduces("Returns the requested number.");
        says("Throws `IndexOutOfBoundsException` if the part does not exist", () -> {
            PieceTransfer x = loaded(PLAIN);
            for (int what = -1; what <= 5; what++) {
                int one = what;
                noIndex("8", () -> x.part(8, one));
                noIndex("-1", () -> x.part(-1, one));
            }
        });
        says("Throws `IllegalArgumentException` for any other what", () -> {
            PieceTransfer x = loaded(PLAIN);
            range("what", x, 0, 4, what -> x.part(7, what));
        });
    }

    private static void checksum() {
        heading("Promise 11");
        says("`int checksum(int source, int from, int length) throws IndexOutOfBoundsException, "
                + "IllegalArgumentException`: Returns the checksum of bytes that a source has.",
                () -> {
            PieceTransfer x = loaded("file 20 3 pieces 8 3;flaw 7 5;");
            equal("of source 0, over the end of a piece", 20 + 2 * 60, x.checksum(0, 7, 2));
            equal("of source 1", 25 + 2 * 60, x.checksum(1, 7, 2));
        });
        says("- `source`: 0 or 1", () -> {
            PieceTransfer x = loaded(PLAIN);
            indexes("source", x, 2, source -> x.checksum(source, 0, 20));
        });
        says("- `from`: the place of the first one, 0 to L - 1", () -> {
            PieceTransfer x = loaded(PLAIN);
            indexes("from", x, 20, from -> x.checksum(1, from, 1));
            equal("the first one", 3, x.checksum(0, 0, 1));
            equal("the last one", 25, x.checksum(0, 19, 1));
        });
        says("- `length`: how many, 1 to L - from", () -> {
            PieceTransfer x = loaded(PLAIN);
            range("from 0", x, 1, 20, length -> x.checksum(0, 0, length));
            range("from 7", x, 1, 13, length -> x.checksum(1, 7, length));
            range("from 18", x, 1, 2, length -> x.checksum(0, 18, length));
            range("from 19", x, 1, 1, length -> x.checksum(1, 19, length));
        });
        says("Returns the checksum.", () -> {
            long sum = 0;
            for (int k = 0; k < 240; k++) {
                sum += (k + 1L) * ((999 + 37 * k + k * k / 5) % 251);
            }
            equal("of all", sum % 9973, loaded("file 240 999 pieces 48 48;").checksum(1, 0, 240));
        });
        says("Throws `IndexOutOfBoundsException` if the source or the place does not exist", () -> {
            PieceTransfer x = loaded(PLAIN);
            noIndex("no source", x, () -> x.checksum(2, 0, 1));
            noIndex("no source and no length", x, () -> x.checksum(-1, 0, 0));
            noIndex("no place", x, () -> x.checksum(0, 20, 1));
            noIndex("no place and no length", x, () -> x.checksum(0, 20, 0));
            noIndex("no place before it", x, () -> x.checksum(0, -1, 2));
        });
        says("Throws `IllegalArgumentException` if length is out of range", () -> {
            PieceTransfer x = loaded(PLAIN);
            noArgument("0", x, () -> x.checksum(0, 5, 0));
            noArgument("16 of 15", x, () -> x.checksum(1, 5, 16));
            noArgument("-1", x, () -> x.checksum(1, 5, -1));
        });
    }
}
