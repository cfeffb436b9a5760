import java.util.Arrays;

/** Promises 1 to 11. */
public final class SetupTest {
    private static final String TEXT =
            "file 20 3 pieces 8 3; flaw 5 10; break 2 1 7; cut 1 4; blame 2;";
    /** (3 + 37 k + k k / 5) modulo 251, worked out by hand. */
    private static final int[] BYTES = {3, 40, 77, 115, 154, 193, 232, 20, 60, 101, 142, 183, 224,
        15, 58, 101, 144, 187, 231, 25};
    private static final String HEADER = "file 1 0 pieces 4 4;";

    public static void main(String[] args) {
        newObject();
        appending();
        loading();
        loadReplaces();
        goodTexts();
        syntaxErrors();
        unexpectedEnds();
        valueErrors();
        tooMany();
        errorPositions();
        counting();
        sources();
        sending();
        getting();
        pieces();
        parts();
        checksums();
        Check.end();
    }

    private static void newObject() {
        PieceTransfer x = new PieceTransfer();
        int[] counts = {1, 1, 1, 0, 0, 0, 0, 1, 0, 0, 0, 3};
        for (int what = 0; what < counts.length; what++) {
            Check.equal("1: count " + what, counts[what], x.count(what));
        }
        for (int source = 0; source < 2; source++) {
            Check.equal("1: connected", 1, x.source(source, 0));
            Check.equal("1: banned", 0, x.source(source, 1));
            Check.equal("1: sent", 0, x.source(source, 2));
            Check.equal("1: blame", 0, x.source(source, 3));
            Check.equal("1: byte", 0, x.sent(source, 0));
        }
        Check.equal("1: got", -1, x.got(0));
        Check.equal("1: length of piece", 1, x.piece(0, 1));
        Check.equal("1: errorPosition", -1, x.errorPosition());
        Check.noArgument("1: the buffer is empty", () -> x.load(1));
        Check.noState("1: no change", () -> x.undo());
        Check.noIndex("1: nothing written", () -> x.writtenByte(0));
        Check.noIndex("1: no event", () -> x.event(0, 0));
        Check.equal("1: as by the text", 1, Check.load(x, HEADER));
    }

    private static void appending() {
        PieceTransfer x = new PieceTransfer();
        // "file 5 0 pieces 4 4;"
        Check.equal("2: first", 20,
                x.append(0x66696c65, 0x20352030, 0x20706965, 0x63657320, 0x3420343b));
        Check.equal("2: read", 2, x.load(20));
        Check.equal("2: run", 1, x.run(300));
        Check.equal("2: progress", 1.0f, x.progress());
        Check.equal("2: undo", 1, x.undo());
        for (int k = 1; k <= 20; k++) {
            Check.equal("2: length", 20 * k, x.append(0, 0, 0, 0, 0));
        }
        Check.noState("2: full", () -> x.append(0, 0, 0, 0, 0));
        Check.noArgument("2: still full", () -> x.load(401));
        Check.equal("2: all of it", -2, x.load(400));
        Check.equal("2: empty again", 20, x.append(0, 0, 0, 0, 0));
        Check.equal("2: a byte above 127", -2, Check.load(new PieceTransfer(), "file \u00ff"));
        PieceTransfer y = new PieceTransfer();
        // the sign of an argument may not spill over to the bytes behind: " \u00a0file"
        y.append(0x66696c65, 0x20a0a0a0, -1, Integer.MIN_VALUE, 0);
        Check.equal("2: negative", -2, y.load(20));
        Check.equal("2: place of negative", 5, y.errorPosition());
    }

    private static void loading() {
        PieceTransfer x = new PieceTransfer();
        Check.append(x, TEXT);
        Check.noArgument("3: -1", () -> x.load(-1));
        Check.noArgument("3: behind the buffer", () -> x.load(81));
        Check.noArgument("3: lowest", () -> x.load(Integer.MIN_VALUE));
        Check.noArgument("3: highest", () -> x.load(Integer.MAX_VALUE));
        Check.equal("3: the buffer was not emptied", 8, x.load(80));
        Check.noArgument("3: the buffer is empty behind", () -> x.load(1));
        Check.append(x, HEADER + "not read");
        Check.equal("3: first bytes alone", 1, x.load(20));
        Check.noArgument("3: the rest is gone", () -> x.load(1));
        Check.append(x, "file 7 ");
        Check.equal("3: error", -2, x.load(7));
        Check.noArgument("3: empty behind an error too", () -> x.load(1));
        Check.equal("3: the present one stays", 1, x.count(0));
        Check.equal("3: no byte", -2, x.load(0));
    }

    private static void loadReplaces() {
        PieceTransfer x = Check.loaded(TEXT);
        x.fetch(1, 0);
        x.search(0);
        x.keep(5);
        x.fetch(0, 0);
        x.connect(0, false);
        x.connect(1, false);
        Check.equal("3: an error is no change", -3, Check.load(x, "file 0"));
        Check.equal("3: transfers stay", 6, x.count(3));
        Check.equal("3: disconnected stays", 0, x.source(0, 0));
        Check.equal("3: another", 2, Check.load(x, "file 8 0 pieces 4 4;"));
        int[] counts = {8, 2, 2, 0, 0, 0, 0, 2, 0, 0, 0, 3};
        for (int what = 0; what < counts.length; what++) {
            Check.equal("3: count " + what, counts[what], x.count(what));
        }
        for (int source = 0; source < 2; source++) {
            int[] numbers = {1, 0, 0, 0, 0};
            for (int what = 0; what < numbers.length; what++) {
                Check.equal("3: source " + what, numbers[what], x.source(source, what));
            }
        }
        Check.equal("3: no flaw any more", x.sent(0, 5), x.sent(1, 5));
        Check.equal("3: load can be undone", 7, x.undo());
        Check.equal("3: transfers are back", 6, x.count(3));
        PieceTransfer banned = Check.loaded("file 4 0 pieces 4 4; flaw 0 1; blame 1;");
        banned.fetch(1, 0);
        banned.search(0);
        Check.equal("3: banned", 1, banned.source(1, 1));
        Check.load(banned, HEADER);
        Check.equal("3: banned no more", 0, banned.source(1, 1));
        Check.equal("3: connected again", 1, banned.source(1, 0));
    }

    private static void good(String text, int parts) {
        PieceTransfer x = new PieceTransfer();
        Check.equal("3: " + text, parts, Check.load(x, text));
        Check.equal("4: " + text, -1, x.errorPosition());
    }

    private static void goodTexts() {
        good(HEADER, 1);
        good("file1 0pieces4 4;", 1);
        good("  file  1  0  pieces  4  4  ;  ", 1);
        good("file 001 000 pieces 0000000000000004 04;", 1);
        good("file 240 999 pieces 48 48;", 5);
        good("file 240 0 pieces 4 1;", 240);
        good("file 20 3 pieces 8 3;", 8);
        good("file 9 0 pieces 4 4;", 3);
        good(HEADER + "flaw0 1;flaw 0 255;", 1);
        good(HEADER + "break 1 0 1;break 999 47 255;", 1);
        good(HEADER + "cut 0 1;cut 1 999;", 1);
        good(HEADER + "blame 1;blame 99;  ", 1);
        good(HEADER + " flaw 0 1 ; cut 0 1 ; break 1 0 1 ; blame 9 ; flaw 0 1;", 1);
        good(HEADER + "flaw 0 1;".repeat(12), 1);
        good(HEADER + "break 1 0 1;".repeat(12), 1);
        good(HEADER + "cut 0 1;".repeat(8), 1);
        good(HEADER + "blame 1;".repeat(40), 1);
    }

    private static void bad(String text, int code, int where) {
        PieceTransfer x = new PieceTransfer();
        Check.equal("3: " + text, code, Check.load(x, text));
        Check.equal("4: " + text, where, x.errorPosition());
        Check.noState("7: no change by " + text, () -> x.undo());
    }

    private static void syntaxErrors() {
        bad("", -2, 0);
        bad("   ", -2, 3);
        bad("pieces", -2, 0);
        bad("fil", -2, 0);
        bad("files 1 0 pieces 4 4;", -2, 0);
        bad("filea 1 0 pieces 4 4;", -2, 0);
        bad("filez 1 0 pieces 4 4;", -2, 0);
        bad("File 1 0 pieces 4 4;", -2, 0);
        bad("fi le 1 0 pieces 4 4;", -2, 0);
        bad("file", -2, 4);
        bad("file ;", -2, 5);
        bad("file -1 0 pieces 4 4;", -2, 5);
        bad("file 1", -2, 6);
        bad("file 1 pieces 4 4;", -2, 7);
        bad("file 1 0", -2, 8);
        bad("file 1 0 4 4;", -2, 9);
        bad("file 1 0 piecesx 4 4;", -2, 9);
        bad("file 1 0 pieces;", -2, 15);
        bad("file 1 0 pieces 4;", -2, 17);
        bad("file 1 0 pieces 4 4", -2, 19);
        bad("file 1 0 pieces 4 4  ", -2, 21);
        bad("file 1 0 pieces 4 4 4;", -2, 20);
        bad("file 1 0 pieces 4 4:", -2, 19);
        bad("file\t1 0 pieces 4 4;", -2, 4);
        bad("file 1 0 pieces 4 4;\n", -2, 20);
        bad("file 1 0 pieces 4 4;\u0000", -2, 20);
        bad(HEADER + ";", -2, 20);
        bad(HEADER + " 5", -2, 21);
        bad(HEADER + "A", -2, 20);
        bad(HEADER + "\u00e6", -2, 20);
        bad(HEADER + "stop;", -2, 20);
        bad(HEADER + "flaws 0 1;", -2, 20);
        bad(HEADER + "fla 0 1;", -2, 20);
        bad(HEADER + HEADER, -2, 20);
        bad(HEADER + "flaw", -2, 24);
        bad(HEADER + "flaw 0", -2, 26);
        bad(HEADER + "flaw 0;", -2, 26);
        bad(HEADER + "flaw 0 1", -2, 28);
        bad(HEADER + "flaw 0 1 1;", -2, 29);
        bad(HEADER + "break 1 0;", -2, 29);
        bad(HEADER + "break 1 0 1", -2, 31);
        bad(HEADER + "cut 0;", -2, 25);
        bad(HEADER + "cut 0 1 cut 0 1;", -2, 28);
        bad(HEADER + "blame;", -2, 25);
        bad(HEADER + "blame 1 2;", -2, 28);
    }

    /** What stands behind the length in the buffer is no part of the text. */
    private static void unexpectedEnds() {
        for (int length = 0; length < HEADER.length(); length++) {
            PieceTransfer x = new PieceTransfer();
            Check.append(x, HEADER);
            int answer = x.load(length);
            Check.equal("3: the first " + length + " bytes", -2, answer);
            // a part of a word is a word that is not allowed, at its first byte
            int where = length < 4 ? 0 : length > 9 && length < 15 ? 9 : length;
            Check.equal("4: the first " + length + " bytes", where, x.errorPosition());
        }
        PieceTransfer y = new PieceTransfer();
        Check.append(y, "file 99 0 pieces 4 4;blame 45;");
        Check.equal("3: half a number", -2, y.load(28));
        Check.equal("4: behind it", 28, y.errorPosition());
    }

    private static void valueErrors() {
        bad("file 0 0 pieces 4 4;", -3, 5);
        bad("file 241 0 pieces 4 4;", -3, 5);
        bad("file  000 0 pieces 4 4;", -3, 6);
        bad("file 4294967297 0 pieces 4 4;", -3, 5);
        bad("file 18446744073709551617 0 pieces 4 4;", -3, 5);
        bad("file 0", -3, 5);
        bad("file 1 1000 pieces 4 4;", -3, 7);
        bad("file 1 0 pieces 3 3;", -3, 16);
        bad("file 1 0 pieces 49 4;", -3, 16);
        bad("file 1 0 pieces 4 0;", -3, 18);
        bad("file 1 0 pieces 4 5;", -3, 18);
        bad("file 1 0 pieces 48 49;", -3, 19);
        bad(HEADER + "flaw 1 1;", -3, 25);
        bad(HEADER + "flaw 0 0;", -3, 27);
        bad(HEADER + "flaw 0 256;", -3, 27);
        bad("file 9 0 pieces 4 4;flaw 9 1;", -3, 25);
        bad(HEADER + "break 0 0 1;", -3, 26);
        bad(HEADER + "break 1000 0 1;", -3, 26);
        bad(HEADER + "break 1 48 1;", -3, 28);
        bad(HEADER + "break 1 0 0;", -3, 30);
        bad(HEADER + "break 1 0 256;", -3, 30);
        bad(HEADER + "cut 2 1;", -3, 24);
        bad(HEADER + "cut 0 0;", -3, 26);
        bad(HEADER + "cut 0 1000;", -3, 26);
        bad(HEADER + "blame 0;", -3, 26);
        bad(HEADER + "blame 100;", -3, 26);
        bad(HEADER + "blame 100 flaw", -3, 26);
    }

    private static void tooMany() {
        bad(HEADER + "flaw 0 1;".repeat(13), -4, 20 + 12 * 9);
        bad(HEADER + "flaw 0 1;".repeat(12) + "  flaw 7 x", -4, 20 + 12 * 9 + 2);
        bad(HEADER + "flaw 0 1;".repeat(12) + "flaws", -2, 20 + 12 * 9);
        bad(HEADER + "break 1 0 1;".repeat(13), -4, 20 + 12 * 12);
        bad(HEADER + "cut 0 1;".repeat(9), -4, 20 + 8 * 8);
        bad(HEADER + "cut 0 1;".repeat(4) + "cut 1 1;".repeat(5), -4, 20 + 8 * 8);
        good(HEADER + "cut 0 1;".repeat(8) + "flaw 0 1;".repeat(12) + "break 1 0 1;".repeat(12),
                1);
    }

    private static void errorPositions() {
        PieceTransfer x = new PieceTransfer();
        Check.load(x, "file 0");
        Check.equal("4: error", 5, x.errorPosition());
        Check.noArgument("4: throws", () -> x.load(1));
        Check.equal("4: stays behind a throw", 5, x.errorPosition());
        Check.load(x, HEADER);
        Check.equal("4: none", -1, x.errorPosition());
        Check.load(x, "file 1 1000");
        Check.equal("4: another error", 7, x.errorPosition());
        x.undo();
        Check.equal("4: undo leaves it", 7, x.errorPosition());
    }

    private static void counting() {
        PieceTransfer x = Check.loaded(TEXT);
        x.fetch(1, 0);
        x.fetch(0, 1);
        Check.equal("5: transfers", 6, x.count(3));
        Check.equal("5: good", 1, x.count(5));
        Check.equal("5: suspect", 1, x.count(6));
        Check.equal("5: missing", 2, x.count(7));
        Check.equal("5: events", 8, x.count(9));
        x.search(0);
        Check.equal("5: queries", 4, x.count(4));
        Check.equal("5: dropped", 1, x.count(10));
        Check.equal("5: suspect no more", 0, x.count(6));
        Check.equal("5: missing then", 3, x.count(7));
        x.fetch(0, 0);
        x.keep(0);
        int[] counts = {20, 3, 8, 7, 4, 0, 0, 8, 1, 12, 1, 2};
        for (int what = 0; what < counts.length; what++) {
            Check.equal("5: count " + what, counts[what], x.count(what));
        }
        Check.noArgument("5: 12", () -> x.count(12));
        Check.noArgument("5: -1", () -> x.count(-1));
        Check.equal("5: the last limit counts", 7,
                Check.loaded(HEADER + "blame 5;blame 7;").count(11));
    }

    private static void numbers(String what, PieceTransfer x, int source, int... want) {
        int[] got = new int[5];
        for (int k = 0; k < 5; k++) {
            got[k] = x.source(source, k);
        }
        Check.equal("6: " + what, Arrays.toString(want), Arrays.toString(got));
    }

    private static void sources() {
        PieceTransfer x = Check.loaded(TEXT);
        x.fetch(1, 0);
        x.fetch(0, 1);
        numbers("source 1", x, 1, 1, 0, 3, 0, 3);
        numbers("source 0", x, 0, 1, 0, 3, 0, 3);
        x.search(0);
        numbers("blame", x, 1, 1, 0, 3, 1, 2);
        x.drop(0);
        numbers("dropped without blame", x, 1, 1, 0, 3, 1, 1);
        x.fetch(1, 0);
        numbers("cut behind its fourth part", x, 1, 0, 0, 4, 1, 2);
        Check.noIndex("6: source 2", () -> x.source(2, 0));
        Check.noIndex("6: source -1 first", () -> x.source(-1, 9));
        Check.noArgument("6: 5", () -> x.source(0, 5));
        Check.noArgument("6: -1", () -> x.source(1, -1));
        PieceTransfer b = Check.loaded("file 4 0 pieces 4 4; flaw 0 1; blame 1;");
        b.fetch(1, 0);
        b.search(0);
        numbers("banned", b, 1, 0, 1, 1, 1, 0);
        numbers("source 0 is not banned", b, 0, 1, 0, 0, 0, 0);
    }

    private static void sending() {
        PieceTransfer x = Check.loaded("file 20 3 pieces 8 3; flaw 5 10; flaw 5 250; flaw 19 255;");
        for (int place = 0; place < 20; place++) {
            Check.equal("7: source 0 at " + place, BYTES[place], x.sent(0, place));
            int flawed = place == 5 ? 197 : place == 19 ? 24 : BYTES[place];
            Check.equal("7: source 1 at " + place, flawed, x.sent(1, place));
        }
        Check.noIndex("7: source 2", () -> x.sent(2, 0));
        Check.noIndex("7: source -1", () -> x.sent(-1, 0));
        Check.noIndex("7: place 20", () -> x.sent(0, 20));
        Check.noIndex("7: place -1", () -> x.sent(1, -1));
        PieceTransfer y = Check.loaded("file 240 999 pieces 48 48;flaw 0 7;");
        Check.equal("7: seed", 999 % 251, y.sent(0, 0));
        Check.equal("7: delta modulo 256", 246 + 7, y.sent(1, 0));
        Check.equal("7: last", (999 + 37 * 239 + 239 * 239 / 5) % 251, y.sent(1, 239));
        Check.noIndex("7: place 240", () -> y.sent(0, 240));
        PieceTransfer z = Check.loaded("file 9 249 pieces 4 4;flaw 0 10;");
        Check.equal("7: not modulo 251", 3, z.sent(1, 0));
    }

    private static void getting() {
        PieceTransfer x = Check.loaded(TEXT);
        x.fetch(1, 0);
        int[] arrived = {3, 40, 77, 115, 161, 203, 232, 20, -1, -1};
        for (int place = 0; place < arrived.length; place++) {
            Check.equal("8: place " + place, arrived[place], x.got(place));
        }
        x.drop(1);
        Check.equal("8: dropped", -1, x.got(3));
        Check.equal("8: before it", 77, x.got(2));
        Check.equal("8: behind it", 232, x.got(6));
        Check.noIndex("8: 20", () -> x.got(20));
        Check.noIndex("8: -1", () -> x.got(-1));
    }

    private static void pieces() {
        PieceTransfer x = Check.loaded(TEXT);
        int[][] want = {{0, 8, 0, 3, 3, 4486, 0}, {8, 8, 3, 3, 3, 3844, 0},
            {16, 4, 6, 2, 2, 1311, 0}};
        for (int piece = 0; piece < 3; piece++) {
            for (int what = 0; what < 7; what++) {
                Check.equal("9: piece " + piece + ", " + what, want[piece][what],
                        x.piece(piece, what));
            }
        }
        PieceTransfer y = Check.loaded("file 240 0 pieces 4 1;");
        Check.equal("9: start of the last of 60", 236, y.piece(59, 0));
        Check.equal("9: length of the last of 60", 4, y.piece(59, 1));
        Check.equal("9: first part of the last of 60", 236, y.piece(59, 2));
        Check.equal("9: parts of the last of 60", 4, y.piece(59, 3));
        Check.equal("9: length of the one before", 4, y.piece(58, 1));
        Check.equal("10: the last of 240", 1, y.part(239, 1));
        x.fetch(1, 0);
        Check.equal("9: none missing", 0, x.piece(0, 4));
        Check.equal("9: suspect", 2, x.piece(0, 6));
        x.fetch(0, 2);
        Check.equal("9: good", 1, x.piece(2, 6));
        x.drop(7);
        Check.equal("9: one missing", 1, x.piece(2, 4));
        Check.equal("9: neither", 0, x.piece(2, 6));
        x.drop(0);
        Check.equal("9: neither any more", 0, x.piece(0, 6));
        Check.noIndex("9: piece 3", () -> x.piece(3, 0));
        Check.noIndex("9: piece -1 first", () -> x.piece(-1, 7));
        Check.noArgument("9: 7", () -> x.piece(0, 7));
        Check.noArgument("9: -1", () -> x.piece(0, -1));
    }

    private static void parts() {
        PieceTransfer x = Check.loaded(TEXT);
        int[][] want = {{0, 3, 0}, {3, 3, 0}, {6, 2, 0}, {8, 3, 1}, {11, 3, 1}, {14, 2, 1},
            {16, 3, 2}, {19, 1, 2}};
        for (int part = 0; part < 8; part++) {
            for (int what = 0; what < 3; what++) {
                Check.equal("10: part " + part + ", " + what, want[part][what],
                        x.part(part, what));
            }
            Check.equal("10: missing " + part, -1, x.part(part, 3));
            Check.equal("10: nothing wrong in missing " + part, 0, x.part(part, 4));
        }
        x.fetch(1, 0);
        Check.equal("10: origin", 1, x.part(1, 3));
        Check.equal("10: a flaw and a break", 2, x.part(1, 4));
        Check.equal("10: right", 0, x.part(0, 4));
        x.fetch(0, 1);
        Check.equal("10: origin 0", 0, x.part(5, 3));
        x.keep(1);
        Check.equal("10: kept away", -1, x.part(1, 3));
        Check.equal("10: not wrong when missing", 0, x.part(1, 4));
        x.resume(0);
        Check.equal("10: origin 2", 2, x.part(1, 3));
        Check.noIndex("10: part 8", () -> x.part(8, 0));
        Check.noIndex("10: part -1 first", () -> x.part(-1, 5));
        Check.noArgument("10: 5", () -> x.part(0, 5));
        Check.noArgument("10: -1", () -> x.part(0, -1));
    }

    private static void checksums() {
        PieceTransfer x = Check.loaded(TEXT);
        Check.equal("11: one byte", 193, x.checksum(0, 5, 1));
        Check.equal("11: with the flaw", 203, x.checksum(1, 5, 1));
        Check.equal("11: numbers count from the first", 60 + 202 + 3 * 142, x.checksum(0, 8, 3));
        Check.equal("11: the last ones", 1311, x.checksum(0, 16, 4));
        Check.noIndex("11: source 2", () -> x.checksum(2, 0, 1));
        Check.noIndex("11: source -1", () -> x.checksum(-1, 0, 1));
        Check.noIndex("11: from 20", () -> x.checksum(0, 20, 1));
        Check.noIndex("11: from -1 first", () -> x.checksum(0, -1, 0));
        Check.noArgument("11: length 0", () -> x.checksum(0, 0, 0));
        Check.noArgument("11: length 21", () -> x.checksum(0, 0, 21));
        Check.noArgument("11: length 5 of 4", () -> x.checksum(1, 16, 5));
        Check.noArgument("11: highest", () -> x.checksum(1, 16, Integer.MAX_VALUE));
        Check.noArgument("11: lowest", () -> x.checksum(1, 16, Integer.MIN_VALUE));
        PieceTransfer y = Check.loaded("file 240 999 pieces 48 48;");
        long sum = 0;
        for (int k = 0; k < 240; k++) {
            sum += (k + 1L) * ((999 + 37 * k + k * k / 5) % 251);
        }
        Check.equal("11: modulo 9973", sum % 9973, y.checksum(0, 0, 240));
        Check.equal("11: of both", sum % 9973, y.checksum(1, 0, 240));
    }
}
