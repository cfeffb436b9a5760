/** The terms of the document, sections 1 to 5, sentence by sentence. */
final class TermSentences extends Sentences {
    static void test() {
        whatItIs();
        file();
        division();
        checksums();
        arrival();
        transfers();
        searching();
        blaming();
        ticks();
        endOfRuns();
        partialFiles();
        keeping();
        resuming();
    }

    private static void whatItIs() {
        heading("What it is");
        introduces("A file that is transferred in pieces and parts of pieces from two sources at "
                + "once: transfers break bytes, connections are cut, checksums of pieces disagree "
                + "and the wrong parts are searched by checksums of halves, a source that sends "
                + "wrong parts too often is banned, partial files are kept under names, renamed, "
                + "spoiled and resumed, and all of it is written into an audit.");
        says("An object is used for at most 512 calls after it has been made; what later calls "
                + "answer is free.", () -> {
            PieceTransfer x = loaded(ENDLESS);
            for (int call = 5; call <= 510; call++) {
                equal("call " + call, 300, x.run(300));
            }
            equal("call 511: the events of 506 runs", 506 * 1200, x.count(9));
            equal("call 512", 7, x.undo());
        });
        heading("The public face");
        Doc.quoteAll(); // FormTest compares the face with it
        heading("Not promised");
        Doc.quoteAll();
    }

    // ---- 1. THE FILE AND ITS SOURCES

    private static void file() {
        heading("1. THE FILE AND ITS SOURCES");
        says("The file has a length L (1 to 240 bytes)", () -> {
            numbers("file N 0 pieces 4 4;", 1, 240);
            equal("the shortest", 1, loaded("file 1 0 pieces 4 4;").count(0));
            PieceTransfer x = loaded("file 240 0 pieces 4 4;");
            equal("the longest", 240, x.count(0));
            equal("60 parts, two in a tick", 30, x.run(300));
            equal("the last byte", (37 * 239 + 239 * 239 / 5) % 251, x.got(239));
        });
        says("and a seed (0 to 999).", () -> {
            numbers("file 1 N pieces 4 4;", 0, 999);
            equal("the lowest", 0, loaded("file 1 0 pieces 4 4;").sent(0, 0));
            equal("the highest", 999 - 3 * 251, loaded("file 1 999 pieces 4 4;").sent(0, 0));
        });
        says("Bytes are numbers from 0 to 255;", () -> {
            PieceTransfer x = loaded("file 2 250 pieces 4 1;flaw 0 5;flaw 1 220;");
            equal("250 and 5", 255, x.sent(1, 0));
            equal("36 and 220", 0, x.sent(1, 1));
            x.fetch(1, 0);
            equal("250 and 5 that arrived", 255, x.got(0));
            equal("36 and 220 that arrived", 0, x.got(1));
            x.keep(1);
            equal("255 and 1", 0, x.spoil(0, 0, 1));
            equal("0 and 255", 255, x.spoil(0, 1, 255));
            PieceTransfer y = loaded("file 2 250 pieces 4 1;break 1 0 5;break 2 0 220;");
            y.fetch(0, 0);
            equal("250 broken by 5", 255, y.got(0));
            equal("36 broken by 220", 0, y.got(1));
        });
        says("the place of a byte is counted from 0.", () -> {
            PieceTransfer x = loaded("file 5 3 pieces 4 4;flaw 0 1;");
            x.run(300);
            for (int place = 0; place < 5; place++) {
                equal("sent at " + place, BYTES[place], x.sent(0, place));
                equal("got at " + place, BYTES[place], x.got(place));
            }
            equal("the flaw of the place 0", 4, x.sent(1, 0));
            indexes("sent", x, 5, place -> x.sent(1, place));
            indexes("got", x, 5, place -> x.got(place));
        });
        says("Source 0 has the file itself: its byte at the place k is (seed + 37 * k + (k * k "
                + "divided by 5, rounded down)) modulo 251.", () -> {
            PieceTransfer x = loaded(TEXT);
            for (int place = 0; place < 20; place++) {
                equal("by hand at " + place, BYTES[place], x.sent(0, place));
            }
            equal("250 is below 251", 250, loaded("file 1 250 pieces 4 4;").sent(0, 0));
            equal("251 is 0", 0, loaded("file 1 251 pieces 4 4;").sent(0, 0));
            equal("252 is 1", 1, loaded("file 1 252 pieces 4 4;").sent(0, 0));
            equal("502 is 0", 0, loaded("file 1 502 pieces 4 4;").sent(0, 0));
            PieceTransfer y = loaded("file 7 0 pieces 4 4;");
            equal("4 divided by 5", 74 + 0, y.sent(0, 2));
            equal("9 divided by 5", 111 + 1, y.sent(0, 3));
            equal("25 divided by 5", 185 + 5, y.sent(0, 5));
            for (int seed : new int[] {0, 1, 177, 999}) {
                PieceTransfer z = loaded("file 240 " + seed + " pieces 48 7;");
                for (int k = 0; k < 240; k++) {
                    equal("seed " + seed + " at " + k, (seed + 37 * k + k * k / 5) % 251,
                            z.sent(0, k));
                }
            }
        });
        flaws();
    }

    private static void flaws() {
        says("Source 1 has a copy with flaws:", () -> {
            PieceTransfer x = loaded("file 20 3 pieces 8 3;flaw 7 1;");
            for (int place = 0; place < 20; place++) {
                equal("at " + place, BYTES[place] + (place == 7 ? 1 : 0), x.sent(1, place));
                equal("source 0 at " + place, BYTES[place], x.sent(0, place));
            }
        });
        says("a flaw has a place and a delta (1 to 255), which is added to the byte at this place "
                + "modulo 256", () -> {
            numbers("file 20 3 pieces 8 3;flaw N 1;", 0, 19);
            numbers("file 20 3 pieces 8 3;flaw 0 N;", 1, 255);
            PieceTransfer x = loaded("file 20 3 pieces 8 3;flaw 0 252;flaw 6 24;flaw 11 72;"
                    + "flaw 18 255;flaw 19 1;");
            equal("255 at the first place", 255, x.sent(1, 0));
            equal("256 is 0", 0, x.sent(1, 6));
            equal("255 is 255", 255, x.sent(1, 11));
            equal("the highest delta takes 1 away", 230, x.sent(1, 18));
            equal("the lowest one at the last place", 26, x.sent(1, 19));
        });
        says("(several flaws of one place are all added).", () -> {
            PieceTransfer x = loaded("file 20 3 pieces 8 3;flaw 5 10;flaw 6 1;flaw 5 10;"
                    + "flaw 5 200;");
            equal("three of one place", (193 + 10 + 10 + 200) % 256, x.sent(1, 5));
            equal("one between them", 233, x.sent(1, 6));
            PieceTransfer y = loaded("file 20 3 pieces 8 3;" + "flaw 0 255;".repeat(12));
            equal("twelve that take away 1 each", (3 + 12 * 255) % 256, y.sent(1, 0));
            equal("two that make 256", 0, loaded("file 20 3 pieces 8 3;flaw 2 1;flaw 2 255;")
                    .differingParts());
        });
    }

    private static void pieces(String text, int... lengths) {
        PieceTransfer x = loaded(text);
        equal(text + " has pieces", lengths.length, x.count(1));
        int start = 0;
        for (int piece = 0; piece < lengths.length; piece++) {
            equal(text + " piece " + piece + " starts", start, x.piece(piece, 0));
            equal(text + " piece " + piece + " has the length", lengths[piece],
                    x.piece(piece, 1));
            start += lengths[piece];
        }
        indexes("piece", x, lengths.length, piece -> x.piece(piece, 0));
    }

    private static void parts(String text, int... lengths) {
        PieceTransfer x = loaded(text);
        equal(text + " has parts", lengths.length, x.count(2));
        int start = 0;
        for (int part = 0; part < lengths.length; part++) {
            equal(text + " part " + part + " starts", start, x.part(part, 0));
            equal(text + " part " + part + " has the length", lengths[part], x.part(part, 1));
            start += lengths[part];
        }
        indexes("part", x, lengths.length, part -> x.part(part, 0));
    }

    private static void division() {
        says("The file is divided into pieces of P bytes (4 to 48; the last one may be shorter), "
                + "numbered from 0,", () -> {
            numbers("file 240 0 pieces N 4;", 4, 48);
            pieces("file 8 0 pieces 4 4;", 4, 4);
            pieces("file 9 0 pieces 4 4;", 4, 4, 1);
            pieces("file 7 0 pieces 4 4;", 4, 3);
            pieces("file 4 0 pieces 4 4;", 4);
            pieces("file 3 0 pieces 4 4;", 3);
            pieces("file 48 0 pieces 48 4;", 48);
            pieces("file 49 0 pieces 48 4;", 48, 1);
            pieces("file 239 0 pieces 48 48;", 48, 48, 48, 48, 47);
            pieces("file 240 0 pieces 48 48;", 48, 48, 48, 48, 48);
            equal("the most pieces", 60, loaded("file 240 0 pieces 4 4;").count(1));
        });
        says("and each piece into parts of Q bytes (1 to P; the last one of a piece may be "
                + "shorter);", () -> {
            numbers("file 9 0 pieces 4 N;", 1, 4);
            numbers("file 9 0 pieces 7 N;", 1, 7);
            numbers("file 9 0 pieces 48 N;", 1, 48);
            parts("file 8 0 pieces 4 1;", 1, 1, 1, 1, 1, 1, 1, 1);
            parts("file 8 0 pieces 4 4;", 4, 4);
            parts("file 8 0 pieces 4 3;", 3, 1, 3, 1);
            parts("file 8 0 pieces 4 2;", 2, 2, 2, 2);
            parts("file 20 3 pieces 8 3;", 3, 3, 2, 3, 3, 2, 3, 1);
            parts("file 18 3 pieces 8 3;", 3, 3, 2, 3, 3, 2, 2);
            parts("file 3 0 pieces 48 48;", 3);
            equal("the most parts", 240, loaded("file 240 0 pieces 48 1;").count(2));
        });
        says("the parts are numbered from 0 through the whole file.", () -> {
            PieceTransfer x = loaded("file 20 3 pieces 8 3;");
            int[] pieceOf = {0, 0, 0, 1, 1, 1, 2, 2};
            for (int part = 0; part < 8; part++) {
                equal("the piece of part " + part, pieceOf[part], x.part(part, 2));
            }
            for (int piece = 0; piece < 3; piece++) {
                equal("the first part of piece " + piece, 3 * piece, x.piece(piece, 2));
            }
            PieceTransfer y = loaded("file 240 0 pieces 4 1;");
            equal("the first part of the last piece", 236, y.piece(59, 2));
            equal("the piece of the last part", 59, y.part(239, 2));
        });
    }

    private static void checksums() {
        says("The checksum of some bytes that follow one another is the sum of each byte times its "
                + "number among them (1 for the first one)", () -> {
            PieceTransfer x = loaded(PLAIN);
            equal("of one byte", 3, x.checksum(0, 0, 1));
            equal("of the last byte", 25, x.checksum(0, 19, 1));
            equal("of two", 3 + 2 * 40, x.checksum(0, 0, 2));
            equal("of three in the middle", 60 + 2 * 101 + 3 * 142, x.checksum(0, 8, 3));
        });
        says("modulo 9973.", () -> {
            equal("9972 is below it", 9972, loaded("file 240 0 pieces 4 4;").checksum(0, 26, 12));
            equal("9973 is 0", 0, loaded("file 240 52 pieces 4 4;").checksum(0, 7, 11));
            equal("9974 is 1", 1, loaded("file 240 58 pieces 4 4;").checksum(1, 4, 12));
            equal("twice 9973 is 0", 0, loaded("file 240 45 pieces 4 4;").checksum(0, 15, 17));
            PieceTransfer x = loaded("file 48 80 pieces 48 48;");
            x.fetch(0, 0);
            x.keep(1);
            int sum = x.partial(0, 2);
            equal("1 + 200", 201, x.spoil(0, 47, 200));
            equal("165 + 10", 175, x.spoil(0, 36, 10));
            equal("154 + 1", 155, x.spoil(0, 2, 1));
            // 48 * 200 + 37 * 10 + 3 * 1 = 9973
            equal("9973 more are the same", sum, x.partial(0, 2));
            equal("and taken to be good", 1, x.resume(0));
            equal("with three other bytes", 3, x.wrongBytes());
        });
        says("The manifest has the checksum of each piece of source 0.", () -> {
            PieceTransfer x = loaded("file 20 3 pieces 8 3;flaw 0 1;flaw 8 1;flaw 19 1;");
            x.fetch(1, 2);
            for (int piece = 0; piece < 3; piece++) {
                int length = piece == 2 ? 4 : 8;
                equal("piece " + piece, x.checksum(0, 8 * piece, length), x.piece(piece, 5));
                isTrue("not that of source 1: " + piece,
                        x.checksum(1, 8 * piece, length) != x.piece(piece, 5));
            }
            equal("of the shorter one", 144 + 2 * 187 + 3 * 231 + 4 * 25, x.piece(2, 5));
        });
    }

    // ---- 2. WHAT HAS ARRIVED

    private static void arrival() {
        heading("2. WHAT HAS ARRIVED");
        says("A part is missing (as all are at first)", () -> {
            equal("of a new object", "-", origins(new PieceTransfer()));
            PieceTransfer x = loaded(PLAIN);
            equal("of a text", "--------", origins(x));
            equal("the number of them", 8, x.count(7));
            x.run(300);
            load(x, PLAIN);
            equal("of the same text again", "--------", origins(x));
        });
        says("or present, with an origin: source 0, source 1, or 2 for a kept partial file.",
                () -> {
            PieceTransfer x = loaded(PLAIN);
            x.fetch(0, 0);
            x.fetch(1, 1);
            equal("of both sources", "000111--", origins(x));
            x.keep(0);
            x.resume(0);
            equal("of a kept partial file", "222222--", origins(x));
            x.fetch(1, 2);
            equal("of all three", 1, x.part(7, 3));
        });
        says("A piece is judged as soon as all its parts are present:", () -> {
            PieceTransfer x = loaded("file 20 3 pieces 8 3;cut 0 2;");
            x.fetch(0, 0);
            equal("not before the last one", 0, x.events(1) + x.events(2));
            equal("neither", 0, x.piece(0, 6));
            x.fetch(1, 0);
            equal("at once behind the last one", "0:2:1 1:0:0", latest(x, 2));
            equal("then good", 1, x.piece(0, 6));
            x.drop(1);
            x.fetch(1, 0);
            equal("and judged again", "0:1:1 1:0:0", latest(x, 2));
        });
        says("it is good if the checksum of its bytes is that of the manifest, otherwise suspect.",
                () -> {
            PieceTransfer x = loaded("file 16 3 pieces 8 8;flaw 0 1;flaw 8 2;flaw 9 255;");
            x.fetch(1, 0);
            equal("one byte is greater by 1", 2, x.piece(0, 6));
            PieceTransfer less = loaded("file 16 3 pieces 8 8;flaw 0 255;");
            less.fetch(1, 0);
            equal("one byte is less by 1", 2, less.piece(0, 6));
            x.fetch(1, 1);
            equal("two other bytes with the same checksum", 1, x.piece(1, 6));
            PieceTransfer y = loaded("file 16 3 pieces 8 8;");
            y.fetch(0, 0);
            equal("the very bytes", 1, y.piece(0, 6));
        });
        says("As long as a part is missing it is neither.", () -> {
            PieceTransfer x = loaded("file 20 3 pieces 8 3;flaw 8 1;");
            x.fetch(0, 0);
            x.fetch(1, 1);
            equal("a good and a suspect one", "GS.", map(x));
            x.drop(0);
            x.drop(5);
            equal("the one was good", 0, x.piece(0, 6));
            equal("the other one was suspect", 0, x.piece(1, 6));
            equal("good ones", 0, x.count(5));
            equal("suspect ones", 0, x.count(6));
        });
        says("The file is finished if all pieces are good.", () -> {
            PieceTransfer x = loaded("file 12 3 pieces 4 4;flaw 8 1;");
            x.fetch(0, 0);
            x.fetch(0, 1);
            x.connect(0, false);
            equal("a piece is missing", 1, x.run(1));
            equal("a piece is suspect", -1, x.ticksLeft());
            x.drop(2);
            x.connect(0, true);
            x.fetch(0, 2);
            equal("all are good", 0, x.ticksLeft());
            x.drop(0);
            equal("one is not good any more", 1, x.ticksLeft());
        });
        says("A source is connected or not; at first both are.", () -> {
            for (int source = 0; source < 2; source++) {
                int one = source;
                equal("of a new object", 1, new PieceTransfer().source(one, 0));
                PieceTransfer x = loaded(PLAIN);
                equal("of a text", 1, x.source(one, 0));
                x.connect(one, false);
                equal("disconnected", 0, x.source(one, 0));
                equal("the other one", 1, x.source(1 - one, 0));
                load(x, PLAIN);
                equal("of another text", 1, x.source(one, 0));
            }
        });
        says("Source 1 can be banned; then it is not connected and cannot be connected any more.",
                () -> {
            PieceTransfer x = loaded("file 4 0 pieces 4 4; flaw 0 1; blame 1;");
            catchOut(x);
            equal("banned", 1, x.source(1, 1));
            equal("not connected", 0, x.source(1, 0));
            noState("connect", x, () -> x.connect(1, true));
            isTrue("off again is no connecting", !x.connect(1, false));
            noState("connect again", x, () -> x.connect(1, true));
            equal("source 0 goes on alone", 1, x.run(300));
            equal("source 0 sent it", 0, x.part(0, 3));
        });
    }

    private static void transfers() {
        says("Transfers are numbered from 1,", () -> {
            PieceTransfer x = loaded("file 8 0 pieces 8 2;break 1 0 1;");
            equal("none at first", 0, x.count(3));
            x.fetch(0, 0);
            equal("the break of the first one", 1, x.part(0, 4));
            equal("no other one", 1, x.wrongBytes());
            equal("four", 4, x.count(3));
        });
        says("those of both sources together.", () -> {
            PieceTransfer x = loaded("file 12 0 pieces 12 2;break 2 0 1;break 3 0 1;");
            x.run(2);
            equal("1 and 3 are of source 0, 2 and 4 of source 1", "00--11", origins(x));
            equal("the break of source 1", 1, x.part(5, 4));
            equal("the break of source 0", 1, x.part(1, 4));
            equal("no other one", 2, x.wrongBytes());
            equal("four", 4, x.count(3));
            load(x, "file 8 0 pieces 8 2;break 1 0 1;");
            x.fetch(1, 0);
            equal("from 1 again with another text", 1, x.part(0, 4));
        });
        says("In a transfer a missing part arrives from a connected source:", () -> {
            PieceTransfer x = loaded(PLAIN);
            x.fetch(0, 0);
            x.drop(1);
            equal("only the missing one", 1, x.fetch(1, 0));
            equal("the others stay", "010-----", origins(x));
            x.connect(1, false);
            noState("not connected", x, () -> x.fetch(1, 1));
        });
        says("its bytes are those that the source has,", () -> {
            PieceTransfer x = loaded("file 20 3 pieces 8 3;flaw 9 1;");
            x.fetch(1, 1);
            for (int place = 8; place < 16; place++) {
                equal("place " + place, x.sent(1, place), x.got(place));
            }
            equal("the flaw too", 102, x.got(9));
        });
        says("but for each break with the number of this transfer", () -> {
            PieceTransfer x = loaded("file 20 3 pieces 8 3;break 2 0 1;break 2 1 2;break 2 0 4;"
                    + "break 4 0 8;");
            x.fetch(0, 0);
            equal("not of the first one", 0, x.part(0, 4));
            equal("two of one byte", 115 + 1 + 4, x.got(3));
            equal("and one of another byte", 154 + 2, x.got(4));
            equal("not of the third one", 0, x.part(2, 4));
            x.drop(1);
            x.fetch(0, 0);
            equal("the same part in another transfer", 115 + 8, x.got(3));
            PieceTransfer y = loaded("file 4 0 pieces 4 2;flaw 2 2;flaw 3 255;cut 1 500;"
                    + "break 999 0 7;");
            y.run(300);
            y.run(199);
            equal("998 transfers", 998, y.count(3));
            y.connect(0, false);
            y.run(1);
            equal("the 999th one is broken", 7, Math.floorMod(y.got(2) - y.sent(1, 2), 256));
        });
        breaks();
        says("The part is present then, with this source as its origin, and its piece is judged if "
                + "all its parts are present.", () -> {
            PieceTransfer x = loaded("file 20 3 pieces 8 3;cut 1 1;");
            x.fetch(1, 0);
            equal("present", "1-------", origins(x));
            equal("not judged", "0:0:1 5:1:1", latest(x, 2));
            x.fetch(0, 0);
            equal("all of it", "0:1:0 0:2:0 1:0:0", latest(x, 3));
            equal("missing", 5, x.count(7));
        });
        cuts();
    }

    private static void breaks() {
        says("and an offset that is less than the length of the part,", () -> {
            PieceTransfer x = loaded("file 20 3 pieces 8 3;break 1 2 1;break 2 3 1;break 3 1 1;"
                    + "break 4 2 1;break 6 2 1;break 5 47 1;");
            x.fetch(0, 0);
            x.fetch(0, 1);
            equal("the last byte of a part of 3", 78, x.got(2));
            equal("an offset of 3 is too great", 0, x.part(1, 4));
            equal("nor is the next part broken", 232, x.got(6));
            equal("the last byte of a shorter part", 21, x.got(7));
            equal("of a part of 3 in the next piece", 143, x.got(10));
            equal("an offset of 2 is too great for 2", 0, x.part(5, 4));
            equal("47 is too great", 0, x.part(4, 4));
            equal("in all", 3, x.wrongBytes());
            PieceTransfer z = loaded("file 20 3 pieces 8 3;break 2 3 1;");
            z.connect(0, false);
            z.run(2);
            equal("nor is the part behind it broken when it is there", 25, z.got(19));
            PieceTransfer far = loaded("file 20 3 pieces 8 3;break 3 5 1;break 4 4 1;");
            far.connect(0, false);
            far.run(4);
            equal("nor one that lies farther behind", 0, far.wrongBytes());
            PieceTransfer y = loaded("file 48 3 pieces 48 48;break 1 47 1;");
            y.fetch(0, 0);
            equal("the 48th byte of 48", 1, y.wrongBytes());
            equal("it is the last one", y.sent(0, 47) + 1, y.got(47));
        });
        says("the delta of the break (1 to 255) is added to the byte at this offset modulo 256.",
                () -> {
            numbers(HEADER + "break 1 0 N;", 1, 255);
            PieceTransfer x = loaded("file 20 3 pieces 8 1;break 1 0 252;break 2 0 216;"
                    + "break 3 0 255;break 4 0 1;");
            x.fetch(1, 0);
            equal("3 and 252", 255, x.got(0));
            equal("40 and 216", 0, x.got(1));
            equal("77 and 255", 76, x.got(2));
            equal("115 and 1", 116, x.got(3));
            PieceTransfer y = loaded("file 20 3 pieces 8 3;flaw 1 250;break 1 1 250;");
            y.fetch(1, 0);
            equal("a flaw and a break", (40 + 250 + 250) % 256, y.got(1));
        });
    }

    private static void cuts() {
        says("Behind that, if there is a cut (or several) of this source with just the number of "
                + "parts that it has sent so far (with this one), it is not connected any more "
                + "(one event).", () -> {
            PieceTransfer x = loaded("file 4 0 pieces 4 1;cut 1 2;cut 1 2;cut 1 2;cut 0 3;");
            equal("with the second one", 2, x.fetch(1, 0));
            equal("not connected", 0, x.source(1, 0));
            equal("one event for three cuts", "0:0:1 0:1:1 5:1:2", latest(x, 3));
            equal("and no more of them", 3, x.count(9));
            equal("source 0 stays", 1, x.source(0, 0));
            x.connect(1, true);
            equal("it has sent more than that", 2, x.fetch(1, 0));
            equal("so it stays", 1, x.source(1, 0));
            x.drop(3);
            x.drop(2);
            x.fetch(0, 0);
            equal("two of source 0", 1, x.source(0, 0));
            x.drop(3);
            x.fetch(0, 0);
            equal("three of source 0, behind the judgement", "0:3:0 1:0:0 5:0:3", latest(x, 3));
            equal("not connected", 0, x.source(0, 0));
        });
    }

    // ---- 3. SEARCHING

    private static PieceTransfer flawed(String text) {
        PieceTransfer x = loaded(text);
        x.fetch(1, 0);
        return x;
    }

    private static void searching() {
        heading("3. SEARCHING");
        says("A suspect piece can be searched while source 0 is connected.", () -> {
            PieceTransfer x = flawed("file 8 0 pieces 4 4;flaw 0 1;");
            x.connect(0, false);
            noState("not connected", x, () -> x.search(0));
            x.connect(0, true);
            x.connect(1, false);
            noState("not all there", x, () -> x.search(1));
            x.fetch(0, 1);
            noState("good", x, () -> x.search(1));
            equal("suspect", 0, x.search(0));
            noState("not any more", x, () -> x.search(0));
        });
        says("A range of its parts is searched like this: if it is a single part, this is wrong.",
                () -> {
            PieceTransfer x = flawed("file 4 0 pieces 4 4;flaw 0 1;");
            equal("no query", 0, x.search(0));
            equal("none counted", 0, x.count(4));
            equal("dropped as wrong", "3:0:1", latest(x, 1));
            PieceTransfer y = flawed("file 4 0 pieces 4 3;flaw 3 1;");
            equal("a half of a single part", 2, y.search(0));
            equal("it is the wrong one", "3:1:1", latest(y, 1));
        });
        says("Otherwise it is divided into two halves (the first one has one part more if their "
                + "number is odd);", () -> {
            equal("of 2, the first one", 2, flawed("file 4 0 pieces 4 2;flaw 0 1;").search(0));
            equal("of 2, the second one", 2, flawed("file 4 0 pieces 4 2;flaw 2 1;").search(0));
            equal("of 3, the first one", 4, flawed("file 6 0 pieces 6 2;flaw 0 1;").search(0));
            equal("of 3, the second one", 4, flawed("file 6 0 pieces 6 2;flaw 2 1;").search(0));
            equal("of 3, the third one", 2, flawed("file 6 0 pieces 6 2;flaw 4 1;").search(0));
            int[] ofFive = {6, 6, 4, 4, 4};
            int[] ofSeven = {6, 6, 6, 6, 6, 6, 4};
            for (int part = 0; part < 7; part++) {
                equal("of 7, part " + part, ofSeven[part],
                        flawed("file 7 0 pieces 7 1;flaw " + part + " 1;").search(0));
                if (part < 5) {
                    equal("of 5, part " + part, ofFive[part],
                            flawed("file 5 0 pieces 5 1;flaw " + part + " 1;").search(0));
                }
            }
            equal("of 48", 12, flawed("file 48 0 pieces 48 1;flaw 0 1;").search(0));
            equal("of 48, the last one", 10, flawed("file 48 0 pieces 48 1;flaw 47 1;").search(0));
        });
        says("for the first half, then for the second one, source 0 is asked for the checksum of "
                + "the bytes of this half (this is one query);", () -> {
            PieceTransfer x = flawed("file 4 0 pieces 4 2;flaw 0 1;flaw 2 1;");
            equal("both are asked for", 2, x.search(0));
            equal("the first one comes first", "3:0:1 3:1:1", latest(x, 2));
            equal("counted", 2, x.count(4));
            // 1 * 2 - 2 * 1 = 0 if the numbers begin with the half, not with the piece
            PieceTransfer y = flawed("file 4 0 pieces 4 2;flaw 2 2;flaw 3 255;");
            y.search(0);
            equal("the bytes of the half alone", "4:0:0", latest(y, 1));
            PieceTransfer z = flawed("file 8 0 pieces 8 3;flaw 6 1;");
            equal("a shorter part at the end", 2, z.search(0));
            equal("is found", "3:2:1", latest(z, 1));
        });
        says("if the checksum of the bytes that have arrived for it is the same, the half is taken "
                + "to be right;", () -> {
            PieceTransfer x = flawed("file 4 0 pieces 4 2;flaw 2 4;flaw 3 254;flaw 0 1;");
            equal("one half is wrong, the other one only seems right", 2, x.search(0));
            equal("only the one is dropped", "-1", origins(x));
            equal("wrong bytes stay", 2, x.wrongBytes());
            PieceTransfer y = flawed("file 4 0 pieces 4 2;flaw 2 255;");
            y.search(0);
            equal("a lower checksum is another one", "1-", origins(y));
            PieceTransfer z = flawed("file 4 0 pieces 4 2;flaw 2 1;");
            z.search(0);
            equal("a higher one too", "1-", origins(z));
        });
        says("otherwise the half is searched likewise at once.", () -> {
            PieceTransfer x = flawed("file 8 0 pieces 8 1;flaw 1 1;flaw 2 1;flaw 6 1;flaw 7 1;"
                    + "blame 99;");
            equal("queries", 2 + 2 + 2 + 2 + 2 + 2, x.search(0));
            equal("the first half to its end before the second one",
                    "3:1:1 3:2:1 3:6:1 3:7:1", latest(x, 4));
        });
        says("The search begins with the range of all parts of the piece, without a query for it.",
                () -> {
            PieceTransfer x = loaded("file 12 0 pieces 4 2;flaw 0 1;flaw 4 1;flaw 10 1;");
            x.fetch(1, 1);
            x.fetch(1, 2);
            x.fetch(1, 0);
            equal("two halves are two queries", 2, x.search(1));
            equal("of this piece alone", "11-111", origins(x));
            equal("the last piece", 2, x.search(2));
            equal("its second part", "11-11-", origins(x));
        });
    }

    private static void blaming() {
        says("Each wrong part is dropped: it is missing then, and if its origin is source 0 or 1, "
                + "the blame of this source becomes 1 greater.", () -> {
            PieceTransfer x = loaded("file 12 0 pieces 12 3;break 1 0 1;flaw 9 1;");
            x.run(2);
            equal("missing then", "-01-", origins(x));
            equal("blame of source 0", 1, x.source(0, 3));
            equal("blame of source 1", 1, x.source(1, 3));
            equal("dropped", 2, x.count(10));
            PieceTransfer y = loaded("file 4 0 pieces 4 2;");
            y.fetch(1, 0);
            y.keep(1);
            y.spoil(0, 2, 1);
            y.resume(0);
            y.search(0);
            equal("a kept one is missing too", "2-", origins(y));
            equal("no blame of source 0", 0, y.source(0, 3));
            equal("no blame of source 1", 0, y.source(1, 3));
            equal("dropped all the same", "3:1:2", latest(y, 1));
        });
        says("If no part was found to be wrong in a search, all parts of the piece are dropped "
                + "without blame.", () -> {
            PieceTransfer x = loaded(ENDLESS.replace("file 4", "file 12") + "blame 1;");
            x.fetch(1, 0);
            x.fetch(1, 1);
            equal("two queries", 2, x.search(0));
            equal("all are missing", "--11--", origins(x));
            equal("one event", "4:0:0", latest(x, 1));
            equal("of seven", 7, x.count(9));
            equal("dropped", 2, x.count(10));
            equal("no blame", 0, x.source(1, 3));
            equal("no ban", 0, x.source(1, 1));
        });
        says("Behind a search (wrong parts are dropped as soon as they are found),", () -> {
            PieceTransfer x = flawed("file 8 0 pieces 8 1;flaw 0 1;flaw 3 1;flaw 7 1;blame 1;");
            x.search(0);
            equal("the ban comes last, with all the blame", "3:0:1 3:3:1 3:7:1 6:1:3",
                    latest(x, 4));
        });
        says("if the blame of source 1 is at least the blame limit (1 to 99) and source 1 is not "
                + "banned yet, it is banned.", () -> {
            numbers(HEADER + "blame N;", 1, 99);
            PieceTransfer x = loaded("file 12 0 pieces 4 2;flaw 0 1;flaw 2 1;flaw 4 1;flaw 8 1;"
                    + "blame 3;");
            x.fetch(1, 0);
            x.fetch(1, 1);
            x.fetch(1, 2);
            x.search(0);
            equal("one less", 0, x.source(1, 1));
            equal("still connected", 1, x.source(1, 0));
            x.search(1);
            equal("just as many", 1, x.source(1, 1));
            equal("the event", "3:2:1 6:1:3", latest(x, 2));
            x.search(2);
            equal("not banned again", "6:1:3 3:4:1", latest(x, 2));
            equal("more blame", 4, x.source(1, 3));
            highestLimit();
            PieceTransfer more = flawed("file 4 0 pieces 4 2;flaw 0 1;flaw 2 1;blame 1;");
            more.search(0);
            equal("more than the limit in one search", 1, more.source(1, 1));
            PieceTransfer off = flawed("file 4 0 pieces 4 4;flaw 0 1;blame 1;");
            off.connect(1, false);
            off.search(0);
            equal("also when it is not connected", 1, off.source(1, 1));
            equal("with the event", "3:0:1 6:1:1", latest(off, 2));
            PieceTransfer z = loaded("file 4 0 pieces 4 4;break 1 0 1;blame 1;");
            z.fetch(0, 0);
            z.search(0);
            equal("source 0 is blamed", 1, z.source(0, 3));
            equal("but not banned", 1, z.source(0, 0));
            equal("nor is source 1", 1, z.source(1, 0));
        });
    }

    private static void highestLimit() {
        StringBuilder text = new StringBuilder("file 11 0 pieces 11 1;blame 99;");
        for (int place = 0; place < 11; place++) {
            text.append("flaw ").append(place).append(" 1;");
        }
        PieceTransfer x = loaded(text.toString());
        for (int round = 1; round <= 9; round++) {
            equal("not banned with a blame of " + x.source(1, 3), 0, x.source(1, 1));
            catchOut(x);
        }
        equal("a blame of 99", 99, x.source(1, 3));
        equal("banned", 1, x.source(1, 1));
    }

    // ---- 4. TICKS

    private static void ticks() {
        heading("4. TICKS");
        says("In a tick of a run: first, if source 0 is connected and a part is missing, the "
                + "missing part with the lowest number is transferred from source 0;", () -> {
            PieceTransfer x = loaded(PLAIN);
            x.fetch(1, 0);
            x.connect(1, false);
            x.run(1);
            equal("behind those that are present", "1110----", origins(x));
            x.drop(1);
            x.run(1);
            equal("the lowest one", "1010----", origins(x));
            x.connect(0, false);
            equal("not connected", 0, x.run(1));
            PieceTransfer y = loaded("file 4 0 pieces 4 2;");
            y.run(1);
            equal("no part is missing", 0, y.run(1));
        });
        says("then, if source 1 is connected and a part is missing, the missing part with the "
                + "highest number is transferred from source 1;", () -> {
            PieceTransfer x = loaded(PLAIN);
            x.fetch(0, 2);
            x.connect(0, false);
            x.run(1);
            equal("before those that are present", "-----100", origins(x));
            x.drop(7);
            x.run(1);
            equal("the highest one", "-----101", origins(x));
            x.connect(0, true);
            x.run(1);
            equal("source 0 comes first", "0:0:0 0:4:1", latest(x, 2));
            PieceTransfer y = loaded("file 4 0 pieces 4 4;");
            y.run(1);
            equal("none is left for source 1", 0, y.source(1, 2));
            PieceTransfer z = loaded("file 12 0 pieces 4 4;cut 0 1;");
            z.run(2);
            equal("source 1 goes on when source 0 is cut", "0:0:0 1:0:0 5:0:1 0:2:1 1:2:0 0:1:1 "
                    + "1:1:0", latest(z, 7));
        });
        says("then, if source 0 is connected, all suspect pieces are searched, in ascending order.",
                () -> {
            PieceTransfer x = loaded("file 16 0 pieces 4 4;flaw 0 1;flaw 8 1;flaw 12 1;");
            x.fetch(1, 2);
            x.fetch(1, 0);
            x.run(1);
            equal("those of this tick too", "0:1:0 1:1:0 0:3:1 2:3:0 3:0:1 3:2:1 3:3:1 6:1:3",
                    latest(x, 8));
            PieceTransfer y = loaded("file 8 0 pieces 4 4;flaw 4 1;cut 0 1;");
            y.run(1);
            equal("source 0 is cut in this tick", "0:0:0 1:0:0 5:0:1 0:1:1 2:1:0", latest(y, 5));
            equal("and nothing more is done", 0, y.run(1));
            y.connect(0, true);
            y.connect(1, false);
            equal("a search alone is a tick", 1, y.run(1));
            equal("without a transfer", 2, y.count(3));
            PieceTransfer z = loaded("file 8 0 pieces 4 4;flaw 0 1;flaw 4 1;blame 1;");
            z.fetch(1, 0);
            z.fetch(1, 1);
            z.run(1);
            equal("the ban by one does not spare the other one", "3:0:1 6:1:1 3:1:1",
                    latest(z, 3));
        });
    }

    private static void endOfRuns() {
        says("A run ends when the file is finished,", () -> {
            PieceTransfer x = loaded("file 12 0 pieces 4 4;");
            equal("with the last part", 2, x.run(3));
            equal("finished before", 0, x.run(3));
            equal("nothing is done then", 3, x.count(3));
            PieceTransfer y = loaded("file 4 0 pieces 4 4;break 1 0 1;");
            equal("dropped in the tick in which it came", 2, y.run(300));
        });
        says("when a tick has done none of these things (this tick is not counted),", () -> {
            PieceTransfer x = loaded("file 8 0 pieces 4 2;cut 0 1;cut 1 1;");
            equal("both are cut", 1, x.run(300));
            equal("none is connected", 0, x.run(300));
            PieceTransfer y = loaded("file 8 0 pieces 4 2;flaw 0 1;");
            y.connect(0, false);
            equal("a suspect piece, but no search", 4, y.run(300));
            equal("nothing to do", 0, y.run(1));
            PieceTransfer z = loaded("file 8 0 pieces 4 2;flaw 0 1;flaw 2 1;blame 1;cut 0 1;");
            z.connect(0, false);
            z.run(4);
            z.connect(0, true);
            equal("a search that bans source 1, then a part that cuts source 0", 2, z.run(300));
            equal("one is still missing", 1, z.count(7));
        });
        says("or when it has made as many ticks as it was told.", () -> {
            PieceTransfer x = loaded(ENDLESS);
            equal("1", 1, x.run(1));
            equal("two transfers", 2, x.count(3));
            equal("299", 299, x.run(299));
            equal("300", 300, x.run(300));
            equal("transfers", 1200, x.count(3));
        });
    }

    // ---- 5. PARTIAL FILES

    private static void partialFiles() {
        heading("5. PARTIAL FILES");
        says("At most 4 partial files can be kept,", () -> {
            PieceTransfer x = loaded(PLAIN);
            for (int name = 0; name < 4; name++) {
                x.fetch(0, 0);
                equal("kept", 8, x.keep(name));
            }
            x.fetch(0, 0);
            noState("a fifth one", x, () -> x.keep(4));
            equal("four", 4, x.count(8));
            x.discard(2);
            equal("one is gone", 8, x.keep(4));
            equal("four again", "0 1 3 4", names(x));
        });
        says("numbered from 0 in the order in which they were kept;", () -> {
            PieceTransfer x = four();
            equal("in order", "1 2 3 4", names(x));
            x.discard(0);
            x.fetch(1, 0);
            x.keep(0);
            equal("the new one is the last", "2 3 4 0", names(x));
            indexes("partial", x, 4, partial -> x.partial(partial, 0));
        });
        says("if one is gone, those behind it get numbers that are lower by 1.", () -> {
            PieceTransfer x = four();
            x.discard(1);
            equal("by discard", "1 3 4", names(x));
            x.resume(0);
            equal("by resume", "3 4", names(x));
            x.discard(1);
            equal("those before it stay", "3", names(x));
            noIndex("no more", x, () -> x.partial(1, 0));
        });
        says("A partial file has a name (0 to 999) and bytes.", () -> {
            PieceTransfer x = loaded("file 5 3 pieces 4 4;");
            x.fetch(0, 0);
            range("keep", x, 0, 999, name -> {
                int length = x.keep(name);
                x.fetch(0, 0);
                return length;
            });
            equal("both names", "0 999", names(x));
            equal("the length", 4, x.partial(1, 1));
            equal("the checksum of its bytes", x.piece(0, 5), x.partial(1, 2));
        });
    }

    private static void keeping() {
        says("Keeping means: the bytes of the parts from the first one on up to the one before the "
                + "first missing part", () -> {
            int[] ends = {0, 3, 6, 8, 11, 14, 16, 19};
            for (int missing = 1; missing < 8; missing++) {
                PieceTransfer x = loaded("file 20 3 pieces 8 3;flaw 2 1;");
                x.connect(0, false);
                x.run(300);
                x.drop(missing);
                equal("part " + missing + " is missing", ends[missing], x.keep(missing));
                equal("the checksum", x.checksum(1, 0, ends[missing]), x.partial(0, 2));
                equal("as they arrived", 1, x.partial(0, 3));
            }
        });
        says("(all of them, if none is missing) become a partial file,", () -> {
            PieceTransfer x = loaded(PLAIN);
            x.run(300);
            equal("all", 20, x.keep(1));
            equal("the checksum", x.checksum(0, 0, 20), x.partial(0, 2));
            PieceTransfer y = loaded("file 240 3 pieces 48 48;");
            y.run(300);
            equal("all 240", 240, y.keep(1));
            PieceTransfer z = new PieceTransfer();
            z.run(1);
            equal("the shortest one", 1, z.keep(1));
        });
        says("and all parts are missing then (also those behind).", () -> {
            PieceTransfer x = loaded("file 20 3 pieces 8 3;flaw 16 1;");
            x.fetch(0, 0);
            x.fetch(1, 2);
            x.keep(1);
            equal("all", "--------", origins(x));
            equal("counted", 8, x.count(7));
            equal("none is good", 0, x.count(5));
            equal("none is suspect", 0, x.count(6));
            equal("no byte", -1, x.got(19));
            equal("those behind are not kept", 8, x.partial(0, 1));
            equal("the pieces are empty", "...", map(x));
        });
    }

    private static void resuming() {
        says("Resuming means: from the first part on, each part whose bytes are all in the partial "
                + "file becomes present with these bytes and the origin 2;", () -> {
            PieceTransfer x = loaded(PLAIN);
            x.run(300);
            x.drop(4);
            x.keep(1);
            x.spoil(0, 10, 5);
            x.resume(0);
            equal("up to byte 10", "2222----", origins(x));
            equal("the last byte", 142 + 5, x.got(10));
            equal("none behind", -1, x.got(11));
            for (int place = 0; place < 10; place++) {
                equal("place " + place, BYTES[place], x.got(place));
            }
            PieceTransfer y = loaded(PLAIN);
            y.run(300);
            y.keep(1);
            y.resume(0);
            equal("all of them", "22222222", origins(y));
            equal("the last one", 25, y.got(19));
        });
        says("further bytes are lost;", () -> {
            // a partial file ends with a part of the same text, so that there are none
            PieceTransfer x = loaded(PLAIN);
            x.fetch(0, 0);
            x.keep(1);
            x.resume(0);
            equal("just the same again", 8, x.keep(2));
        });
        says("then all pieces whose parts are all present are judged, in ascending order;", () -> {
            PieceTransfer x = loaded("file 20 3 pieces 8 3;flaw 0 1;");
            x.fetch(1, 0);
            x.fetch(0, 1);
            x.fetch(0, 2);
            x.drop(7);
            x.keep(5);
            equal("good ones", 1, x.resume(0));
            equal("behind the event", "8:5:7 2:0:0 1:1:0", latest(x, 3));
            equal("the last one is not judged", "SG1", map(x));
        });
        says("the partial file is gone.", () -> {
            PieceTransfer x = four();
            x.resume(3);
            equal("three are left", "1 2 3", names(x));
            noElement("by name", x, () -> x.named(4));
            equal("by length", 1, x.sized(8));
        });
    }
}
