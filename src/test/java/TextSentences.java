/** The terms of the document, sections 6 to 8, sentence by sentence. */
final class TextSentences extends Sentences {
    static void test() {
        audit();
        eventsOfArrivals();
        eventsOfSearches();
        grammar();
        words();
        spaces();
        numbersOfTexts();
        mostStatements();
        errors();
        changes();
        undoing();
        whatUndoLeaves();
        refusals();
        firstNamed();
        noSuchIndex();
        constants();
    }

    // ---- 6. THE AUDIT

    private static void audit() {
        heading("6. THE AUDIT");
        says("The audit has the latest 40 events.", () -> {
            PieceTransfer x = loaded("file 48 0 pieces 48 1;");
            noIndex("empty", x, () -> x.event(0, 0));
            x.connect(1, false);
            x.run(1);
            equal("one", 0, x.event(0, 1));
            noIndex("one and no more", x, () -> x.event(1, 0));
            x.run(38);
            equal("39", 0, x.event(38, 1));
            noIndex("39 and no more", x, () -> x.event(39, 0));
            x.run(1);
            equal("40", 0, x.event(39, 1));
            equal("40 of one kind", 40, x.events(0));
            x.run(1);
            equal("the first one of 41 is lost", 1, x.event(39, 1));
            equal("the latest one", 40, x.event(0, 1));
            noIndex("never more than 40", x, () -> x.event(40, 0));
            equal("still 40 of the kind", 40, x.events(0));
            equal("41 that there ever were", 41, x.count(9));
            x.run(300);
            for (int back = 1; back < 40; back++) {
                equal("back " + back, 48 - back, x.event(back, 1));
            }
            equal("the judgement is the latest one", 1, x.event(0, 0));
        });
        introduces("An event has a kind and two numbers:");
    }

    private static void eventsOfArrivals() {
        says("0 a part has arrived (the part, the source);", () -> {
            PieceTransfer x = loaded(PLAIN);
            x.run(1);
            equal("the lowest part of source 0, the highest part of source 1", "0:0:0 0:7:1",
                    latest(x, 2));
            x.keep(1);
            x.resume(0);
            equal("not by resume", 2, x.events(0));
        });
        says("1 a piece was judged good (the piece, 0);", () -> {
            PieceTransfer x = loaded(PLAIN);
            x.fetch(1, 2);
            equal("piece 2 by source 1", "1:2:0", latest(x, 1));
        });
        says("2 a piece was judged suspect (the piece, 0);", () -> {
            PieceTransfer x = loaded("file 20 3 pieces 8 3;flaw 16 1;");
            x.fetch(1, 2);
            equal("piece 2 by source 1", "2:2:0", latest(x, 1));
        });
        says("3 a part was dropped as wrong (the part, its origin);", () -> {
            PieceTransfer x = loaded("file 20 3 pieces 8 3;break 2 0 1;break 4 0 1;");
            x.fetch(0, 2);
            x.search(2);
            equal("of source 0", "3:7:0", latest(x, 1));
            x.fetch(0, 2);
            x.fetch(1, 1);
            x.search(1);
            equal("of source 1", "3:3:1", latest(x, 1));
            x.run(300);
            x.keep(1);
            x.spoil(0, 19, 1);
            x.resume(0);
            x.search(2);
            equal("of a kept file", "3:7:2", latest(x, 1));
        });
        says("4 all parts of a piece were dropped because none was found to be wrong (the piece, "
                + "0);", () -> {
            PieceTransfer x = loaded("file 8 0 pieces 4 2;flaw 6 2;flaw 7 255;");
            x.fetch(1, 1);
            x.search(1);
            equal("piece 1", "2:1:0 4:1:0", latest(x, 2));
        });
    }

    private static void eventsOfSearches() {
        says("5 a source was cut (the source, the number of parts that it has sent);", () -> {
            PieceTransfer x = loaded("file 20 3 pieces 8 3;cut 0 2;cut 1 1;");
            x.fetch(0, 0);
            equal("source 0", "5:0:2", latest(x, 1));
            x.fetch(1, 0);
            equal("source 1", "5:1:1", latest(x, 1));
            x.connect(0, true);
            x.connect(0, false);
            equal("not by connect", 2, x.events(5));
        });
        says("6 source 1 was banned (1, its blame);", () -> {
            PieceTransfer x = loaded("file 4 0 pieces 4 2;flaw 0 1;flaw 2 1;blame 1;");
            catchOut(x);
            equal("a blame of 2", "6:1:2", latest(x, 1));
            equal("once, and it is not cut", 1, x.events(6) + x.events(5));
        });
        says("7 a partial file was kept (its name, its length);", () -> {
            PieceTransfer x = loaded(PLAIN);
            x.fetch(0, 0);
            x.keep(999);
            equal("its name, not its number", "7:999:8", latest(x, 1));
        });
        says("8 a partial file was resumed (its name, the number of parts that are present then; "
                + "this event comes before those of the judgements).", () -> {
            PieceTransfer x = four();
            x.rename(1, 77);
            x.resume(1);
            equal("its name now", "8:77:3 1:0:0", latest(x, 2));
            PieceTransfer y = four();
            y.resume(0);
            equal("nothing to be judged", "8:1:1", latest(y, 1));
        });
    }

    // ---- 7. TEXTS AND CHANGES

    /** Numbers of which each one may stand in the place of the one before it. */
    private static final String OTHER = "file 9 8 pieces 7 6;";

    private static void grammar() {
        heading("7. TEXTS AND CHANGES");
        says("A transfer is read from a text of at most 400 bytes:", () -> {
            String text = HEADER + "blame 5;".repeat(46) + "    blame 7;";
            equal("a text of 400 bytes", 400, text.length());
            PieceTransfer x = new PieceTransfer();
            append(x, text);
            noState("more than 400 bytes", x, () -> x.append(0, 0, 0, 0, 0));
            noArgument("more than there are", x, () -> x.load(401));
            equal("all of it is read", 1, x.load(400));
            equal("to its end", 7, x.count(11));
            PieceTransfer y = new PieceTransfer();
            append(y, text);
            equal("without the last byte", -2, y.load(399));
            equal("at its length", 399, y.errorPosition());
        });
        says("text = \"file\" N N \"pieces\" N N \";\" { statement \";\" } .", () -> {
            good("file 1 0 pieces 4 4;", 1);
            good(HEADER + "blame 1;", 1);
            lacks(OTHER, 0);
            bad(HEADER + ";", -2, 20);
            bad(HEADER + HEADER, -2, 20);
            bad("blame 1;" + HEADER, -2, 0);
            bad("file 1 0 pieces 4 4 blame 1;", -2, 20);
            bad(HEADER + "blame 1", -2, 27);
        });
        says("statement = \"flaw\" N N | \"break\" N N N | \"cut\" N N | \"blame\" N .", () -> {
            for (String one : new String[] {"flaw 1 2;", "break 2 1 3;", "cut 1 1;", "blame 2;"}) {
                good(OTHER + one, 3);
                lacks(OTHER + one, 7);
                bad(OTHER + one.replace(";", " 1;"), -2, 20 + one.length());
            }
            bad(HEADER + "file 0 1;", -2, 20);
            bad(HEADER + "pieces 4 4;", -2, 20);
            bad(HEADER + "stop;", -2, 20);
        });
        says("Braces mean any number of repetitions, | separates alternatives, quoted parts stand "
                + "for themselves.", () -> {
            good(HEADER, 1);
            good(HEADER + "blame 1;".repeat(47), 1);
            good(HEADER + "cut 0 1;blame 1;flaw 0 1;break 1 0 1;cut 0 1;flaw 0 1;", 1);
            bad("\"file\" 1 0 pieces 4 4;", -2, 0);
            bad(HEADER + "{blame 1;}", -2, 20);
            bad(HEADER + "FLAW 0 1;", -2, 20);
        });
    }

    /** A text that lacks a token, from this one on, is wrong where the next one stands. */
    private static void lacks(String text, int from) {
        String[] tokens = text.replace(";", " ; ").split(" +");
        for (int gone = from; gone < tokens.length; gone++) {
            StringBuilder rest = new StringBuilder();
            int where = 0;
            for (int k = 0; k < tokens.length; k++) {
                if (k == gone) {
                    where = rest.length();
                } else {
                    rest.append(tokens[k]).append(' ');
                }
            }
            // a number takes the place of the one that lacks, so that the last number is not there
            for (int k = gone + 1; isNumber(tokens[gone]) && isNumber(tokens[k]); k++) {
                where += tokens[k].length() + 1;
            }
            bad(rest.toString(), -2, where);
        }
    }

    private static boolean isNumber(String token) {
        return token.matches("[0-9]+");
    }

    private static void words() {
        says("A word is the longest possible sequence of the letters a to z;", () -> {
            bad("filea 1 0 pieces 4 4;", -2, 0);
            bad("filez 1 0 pieces 4 4;", -2, 0);
            bad("filepieces 1 0 pieces 4 4;", -2, 0);
            bad("file 1 0 piecesa 4 4;", -2, 9);
            bad("fi le 1 0 pieces 4 4;", -2, 0);
            bad(HEADER + "flawflaw 0 1;", -2, 20);
            bad(HEADER + "breaks 1 0 1;", -2, 20);
            bad(HEADER + "cutz 0 1;", -2, 20);
            bad(HEADER + "blamea 1;", -2, 20);
            bad(HEADER + "f law 0 1;", -2, 20);
            good("file1 0pieces4 4;blame1;", 1);
            bad("file` 1 0 pieces 4 4;", -2, 4);
            bad("file{ 1 0 pieces 4 4;", -2, 4);
            bad("fileA 1 0 pieces 4 4;", -2, 4);
            bad("fileZ 1 0 pieces 4 4;", -2, 4);
            bad("File 1 0 pieces 4 4;", -2, 0);
        });
        says("N is the longest possible sequence of digits.", () -> {
            bad("file 10 pieces 4 4;", -2, 8);
            bad("file 1 00 pieces 4 44;", -3, 19);
            bad("file 1 0 pieces 44;", -2, 18);
            good("file 09 00 pieces 004 000000000000000000000000004;", 3);
            bad("file 00000000000000000000241 0 pieces 4 4;", -3, 5);
            bad("file 1/0 pieces 4 4;", -2, 6);
            bad("file 1:0 pieces 4 4;", -2, 6);
            bad("file 1.0 pieces 4 4;", -2, 6);
            bad("file +1 0 pieces 4 4;", -2, 5);
            bad("file -1 0 pieces 4 4;", -2, 5);
            bad(HEADER + "flaw 00;", -2, 27);
        });
    }

    private static void spaces() {
        says("Spaces (byte 32) may stand in front of every token and at the end of the text.",
                () -> {
            good("  file  1  0  pieces  4  4  ;  flaw  0  1  ;  break  1  0  1  ;  cut  0  1  ;  "
                    + "blame  1  ;  ", 1);
            good("file1 0pieces4 4;flaw0 1;break1 0 1;cut0 1;blame1;", 1);
            good(HEADER + " ".repeat(380), 1);
            good(" ".repeat(380) + HEADER, 1);
            bad(" ".repeat(400), -2, 400);
            for (int sign : new int[] {0, 9, 10, 13, 31, 33, 127, 128, 160, 255}) {
                char c = (char) sign;
                bad(c + HEADER, -2, 0);
                bad("file" + c + "1 0 pieces 4 4;", -2, 4);
                bad("file 1" + c + "0 pieces 4 4;", -2, 6);
                bad("file 1 0 pieces 4 4" + c + ";", -2, 19);
                bad(HEADER + c, -2, 20);
                bad(HEADER + "  " + c, -2, 22);
                bad(HEADER + "blame" + c + "1;", -2, 25);
            }
        });
    }

    private static void numbersOfTexts() {
        introduces("The numbers are:");
        says("L and the seed; P and Q;", () -> {
            PieceTransfer x = loaded("file 30 7 pieces 12 5;");
            equal("L", 30, x.count(0));
            equal("seed", 7, x.sent(0, 0));
            equal("P", 12, x.piece(0, 1));
            equal("Q", 5, x.part(0, 1));
            numbers("file N 0 pieces 4 4;", 1, 240);
            numbers("file 1 N pieces 4 4;", 0, 999);
            numbers("file 1 0 pieces N 4;", 4, 48);
            numbers("file 1 0 pieces 48 N;", 1, 48);
            numbers("file 1 0 pieces 4 N;", 1, 4);
        });
        says("of a flaw the place (0 to L - 1) and the delta;", () -> {
            numbers(HEADER + "flaw N 1;", 0, 0);
            numbers("file 240 0 pieces 4 4;flaw N 1;", 0, 239);
            numbers("file 77 0 pieces 4 4;flaw N 1;", 0, 76);
            numbers(HEADER + "flaw 0 N;", 1, 255);
            PieceTransfer x = loaded("file 20 3 pieces 8 3;flaw 5 10;");
            equal("the place comes first", BYTES[5] + 10, x.sent(1, 5));
        });
        says("of a break the number of a transfer (1 to 999), the offset (0 to 47) and the delta;",
                () -> {
            numbers(HEADER + "break N 0 1;", 1, 999);
            numbers(HEADER + "break 1 N 1;", 0, 47);
            numbers(HEADER + "break 1 0 N;", 1, 255);
            PieceTransfer x = loaded("file 20 3 pieces 8 3;break 3 1 2;");
            x.fetch(0, 0);
            equal("in this order", BYTES[7] + 2, x.got(7));
            equal("nothing else", 1, x.wrongBytes());
        });
        says("of a cut the source (0 or 1) and the number of parts (1 to 999);", () -> {
            numbers(HEADER + "cut N 1;", 0, 1);
            numbers(HEADER + "cut 0 N;", 1, 999);
            PieceTransfer x = loaded("file 20 3 pieces 8 3;cut 0 1;");
            x.fetch(1, 0);
            equal("not source 1", 1, x.source(1, 0));
            x.fetch(0, 1);
            equal("source 0", 0, x.source(0, 0));
            PieceTransfer y = loaded(ENDLESS + "cut 1 999;");
            for (int k = 0; k < 3; k++) {
                y.run(300);
            }
            y.run(98);
            equal("998 parts", 1, y.source(1, 0));
            y.run(1);
            equal("999 parts", 0, y.source(1, 0));
            equal("the event", 999, y.source(1, 2));
        });
        says("the blame limit (3 without it; the last one counts).", () -> {
            equal("without it", 3, loaded(HEADER).count(11));
            equal("with one", 99, loaded(HEADER + "blame 99;").count(11));
            equal("with two", 1, loaded(HEADER + "blame 99;blame 1;").count(11));
            equal("with three", 50, loaded(HEADER + "blame 7;blame 1;cut 0 1;blame 50;").count(11));
            PieceTransfer x = loaded(HEADER + "blame 7;");
            load(x, HEADER);
            equal("without it again", 3, x.count(11));
            numbers(HEADER + "blame N;", 1, 99);
        });
    }

    private static void mostStatements() {
        says("There may be at most 12 flaws, 12 breaks and 8 cuts.", () -> {
            good(HEADER + "flaw 0 1;".repeat(12), 1);
            bad(HEADER + "flaw 0 1;".repeat(13), -4, 20 + 12 * 9);
            good(HEADER + "break 1 0 1;".repeat(12), 1);
            bad(HEADER + "break 1 0 1;".repeat(13), -4, 20 + 12 * 12);
            good(HEADER + "cut 0 1;".repeat(8), 1);
            bad(HEADER + "cut 0 1;".repeat(9), -4, 20 + 8 * 8);
            bad(HEADER + "cut 0 1;".repeat(4) + "cut 1 1;".repeat(5), -4, 20 + 8 * 8);
            String all = HEADER + "flaw 0 1;".repeat(12) + "break 1 0 1;".repeat(12)
                    + "cut 0 1;".repeat(8);
            good(all + "blame 1;blame 1;", 1);
            PieceTransfer x = loaded("file 12 3 pieces 12 1;" + "flaw 0 255;".repeat(11)
                    + "flaw 11 1;");
            equal("the 11 of one place", 256 + 3 - 11, x.sent(1, 0));
            equal("the 12th one counts", 184, x.sent(1, 11));
            PieceTransfer y = loaded("file 12 3 pieces 12 1;" + "break 1 0 255;".repeat(11)
                    + "break 12 0 1;");
            y.fetch(0, 0);
            equal("the 11 of one transfer", 256 + 3 - 11, y.got(0));
            equal("the 12th one counts", 184, y.got(11));
            PieceTransfer z = loaded("file 12 3 pieces 12 1;" + "cut 0 1;".repeat(7) + "cut 1 2;");
            equal("the eighth one counts", 2, z.fetch(1, 0));
        });
    }

    private static void errors() {
        says("Reading stops at the first error.", () -> {
            bad("file 0 1000 pieces 3 0", -3, 5);
            bad("file 1 1000 pieces 3 0", -3, 7);
            bad("file 1 0 piece 3 0", -2, 9);
            bad("file 241 0 piece", -3, 5);
            bad("fil 241", -2, 0);
            bad(HEADER + "blame 0;blame", -3, 26);
            bad(HEADER + "flaw 0 1:" + "cut 0 1;".repeat(9), -2, 28);
            bad(HEADER + "cut 0 1;".repeat(8) + "blame 0;cut 0 1;", -3, 20 + 64 + 6);
            bad(HEADER + "cut 0 1;".repeat(9) + "blame 0;", -4, 20 + 64);
        });
        says("If several error codes fit the same position, the first one in this list is "
                + "reported:", () -> {
            // at one word no other code fits beside the 13th one, and a number fits the grammar
            bad(HEADER + "flaw 0 1;".repeat(12) + "flaws 0 1;", -2, 20 + 12 * 9);
            bad(HEADER + "flaw 0 1;".repeat(12) + "cuts", -2, 20 + 12 * 9);
            bad(HEADER + "blame 1 100;", -2, 28);
            bad(HEADER + "blame 100 100;", -3, 26);
        });
        says("SYNTAX_ERROR: a byte or token that is not allowed here (at its first byte),", () -> {
            bad("  fiel 1 0 pieces 4 4;", -2, 2);
            bad("file one 0 pieces 4 4;", -2, 5);
            bad("file 1 0 12 4 4;", -2, 9);
            bad("file 1 0 pieces 4 4  blame 1;", -2, 21);
            bad("file 1 0 pieces 4 4 , blame 1;", -2, 20);
            bad(HEADER + " 7;", -2, 21);
            bad(HEADER + "blame blame;", -2, 26);
            bad(HEADER + (char) 255, -2, 20);
            bad(HEADER + (char) 0, -2, 20);
            bad((char) 230 + "", -2, 0);
        });
        says("or an unexpected end of the text (at the length of the text).", () -> {
            bad("", -2, 0);
            bad(" ", -2, 1);
            bad("file", -2, 4);
            bad("file ", -2, 5);
            bad("file 1", -2, 6);
            bad("file 1 0", -2, 8);
            bad("file 1 0 pieces", -2, 15);
            bad("file 1 0 pieces 4", -2, 17);
            bad("file 1 0 pieces 4 4", -2, 19);
            bad("file 1 0 pieces 4 4   ", -2, 22);
            bad(HEADER + "flaw", -2, 24);
            bad(HEADER + "flaw 0 ", -2, 27);
            bad(HEADER + "break 1 0", -2, 29);
            bad(HEADER + "cut 0 1", -2, 27);
            bad(HEADER + "blame", -2, 25);
            PieceTransfer x = new PieceTransfer();
            append(x, "file 99 0 pieces 4 4;blame 45;");
            equal("what stands behind the length is no part of it", -2, x.load(29));
            equal("at the length", 29, x.errorPosition());
        });
        says("VALUE_ERROR: a number out of its range (at its first digit).", () -> {
            bad("file   000241 0 pieces 4 4;", -3, 7);
            bad("file1 1000pieces4 4;", -3, 6);
            bad("file 1 0 pieces 4 5;", -3, 18);
            bad("file 9 0 pieces 4 4;flaw 9 1;", -3, 25);
            bad("file 0", -3, 5);
            bad(HEADER + "cut 0 0", -3, 26);
        });
        says("TOO_MANY: a 13th flaw or break, or a 9th cut (at its word).", () -> {
            bad(HEADER + "flaw 0 1;".repeat(12) + "   flaw 0 1;", -4, 20 + 12 * 9 + 3);
            bad(HEADER + "flaw 0 1;".repeat(12) + "flaw", -4, 20 + 12 * 9);
            bad(HEADER + "flaw 0 1;".repeat(12) + "flaw 9 0;", -4, 20 + 12 * 9);
            bad(HEADER + "break 1 0 1;".repeat(12) + " break 0 x", -4, 20 + 12 * 12 + 1);
            bad(HEADER + "cut 0 1;".repeat(8) + " cut;", -4, 20 + 8 * 8 + 1);
            good(HEADER + "blame 1;".repeat(13), 1);
        });
    }

    /** Makes the change of this number; each one succeeds behind those before it. */
    private static void change(PieceTransfer x, int number) {
        switch (number) {
            case 0:
                load(x, TEXT);
                break;
            case 1:
                x.fetch(1, 0);
                break;
            case 2:
                x.search(0);
                break;
            case 3:
                x.drop(0);
                break;
            case 4:
                x.run(1);
                break;
            case 5:
                x.keep(5);
                break;
            case 6:
                x.rename(0, 6);
                break;
            case 7:
                x.spoil(0, 0, 1);
                break;
            case 8:
                x.resume(0);
                break;
            case 9:
                x.keep(9);
                break;
            case 10:
                x.discard(0);
                break;
            default:
                x.connect(0, false);
        }
    }

    private static PieceTransfer changed(int changes) {
        PieceTransfer x = new PieceTransfer();
        for (int number = 0; number < changes; number++) {
            change(x, number);
        }
        return x;
    }

    private static void changes() {
        says("The changes are all calls of load, connect, fetch, search, drop, run, keep, resume, "
                + "rename, spoil and discard that succeed", () -> {
            for (int number = 0; number < 12; number++) {
                PieceTransfer x = changed(number);
                String before = state(x);
                change(x, number);
                isTrue("change " + number + " changes something", !before.equals(state(x)));
                equal("change " + number + " can be undone", Math.min(number, 7), x.undo());
                equal("change " + number + " undone", before, state(x));
            }
            PieceTransfer again = changed(5);
            load(again, HEADER);
            equal("a load is one change among the others", 5, again.undo());
            equal("so that those before it can be undone", 4, again.undo());
            equal("as if there had been no load", state(changed(4)), state(again));
            PieceTransfer y = loaded(PLAIN);
            y.fetch(0, 0);
            y.keep(1);
            y.connect(0, true);
            y.rename(0, 1);
            equal("also those that leave all as it was", 4, y.undo());
            equal("both of them", 3, y.undo());
            tellings(y);
            equal("tellings are no changes", 2, y.undo());
        });
        says("(a text with an error is no change).", () -> {
            PieceTransfer x = loaded(PLAIN);
            x.fetch(0, 0);
            equal("an error", -2, load(x, "file"));
            equal("another error", -3, load(x, "file 0"));
            equal("the fetch is undone", 1, x.undo());
            equal("so that nothing is there", 0, x.count(3));
        });
    }

    /** All calls that tell something, and append. */
    private static void tellings(PieceTransfer x) {
        x.append(0, 0, 0, 0, 0);
        x.errorPosition();
        x.count(0);
        x.source(0, 0);
        x.sent(0, 0);
        x.got(0);
        x.piece(0, 0);
        x.part(0, 0);
        x.checksum(0, 0, 1);
        noElement("nothing is suspect", () -> x.queriesFor(0));
        x.ticksLeft();
        x.named(1);
        x.sized(8);
        x.partial(0, 0);
        x.wrongBytes();
        x.differingParts();
        x.progress();
        x.event(0, 0);
        x.events(0);
        x.writeMap();
        x.writtenByte(0);
    }

    private static void undoing() {
        says("The latest 8 changes can be undone, older ones cannot any more;", () -> {
            for (int made = 1; made <= 20; made++) {
                PieceTransfer x = new PieceTransfer();
                for (int k = 0; k < made; k++) {
                    x.connect(0, k % 2 == 1);
                }
                int most = Math.min(made, 8);
                for (int left = most - 1; left >= 0; left--) {
                    equal("left of " + made, left, x.undo());
                }
                noState("no more of " + made, x, () -> x.undo());
                equal("as it was before", (made - most) % 2 == 0 ? 1 : 0, x.source(0, 0));
            }
            PieceTransfer y = loaded("file 48 0 pieces 48 1;");
            y.connect(1, false);
            for (int k = 0; k < 10; k++) {
                y.run(1);
            }
            y.undo();
            y.undo();
            y.undo();
            y.run(2);
            equal("five and one are left", 5, y.undo());
            for (int left = 4; left >= 0; left--) {
                equal("and so on", left, y.undo());
            }
            equal("two are too old", 2, y.count(3));
            noState("too old", y, () -> y.undo());
        });
        says("undoing a change brings back everything as it was before it,", () -> {
            for (int undone = 1; undone <= 8; undone++) {
                PieceTransfer x = changed(12);
                for (int k = 0; k < undone; k++) {
                    x.undo();
                }
                equal(undone + " undone", state(changed(12 - undone)), state(x));
            }
            PieceTransfer y = loaded("file 48 0 pieces 48 1;");
            y.connect(1, false);
            y.run(45);
            String audit = latest(y, 40);
            y.run(1);
            y.undo();
            equal("events that were lost", audit, latest(y, 40));
            PieceTransfer z = loaded("file 8 0 pieces 4 4;flaw 0 1;blame 1;");
            catchOut(z);
            String banned = state(z);
            z.fetch(0, 0);
            z.undo();
            equal("a ban before it stays", banned, state(z));
            z.undo();
            equal("a ban by it does not", 0, z.source(1, 1));
            isTrue("and the source is connected", z.connect(1, true));
        });
    }

    private static void whatUndoLeaves() {
        says("but not the text buffer,", () -> {
            PieceTransfer x = new PieceTransfer();
            append(x, HEADER);
            x.run(1);
            append(x, "blame 9;");
            x.undo();
            equal("both are still there", 1, x.load(40));
            equal("and were read", 9, x.count(11));
            x.undo();
            noArgument("what was read does not come back", x, () -> x.load(1));
        });
        says("the position of the error", () -> {
            PieceTransfer x = new PieceTransfer();
            x.run(1);
            load(x, "file 0");
            x.undo();
            equal("that was found behind the change", 5, x.errorPosition());
            load(x, HEADER);
            x.undo();
            equal("none since the load that was undone", -1, x.errorPosition());
        });
        says("and the written text.", () -> {
            PieceTransfer x = loaded(PLAIN);
            x.writeMap();
            x.fetch(0, 0);
            x.writeMap();
            x.undo();
            equal("as it was written last", "G..", written(x));
            load(x, HEADER);
            x.writeMap();
            x.undo();
            equal("of the text that was undone", ".", written(x));
        });
    }

    // ---- 8. EXCEPTIONS

    private static void refusals() {
        heading("8. EXCEPTIONS");
        says("A method that throws an exception changes nothing.", () -> {
            PieceTransfer x = loaded("file 20 3 pieces 8 3;flaw 0 1;flaw 8 1;blame 1;");
            catchOut(x);
            x.fetch(0, 0);
            x.keep(1);
            x.fetch(0, 0);
            load(x, "file 0");
            x.writeMap();
            append(x, " ".repeat(400));
            String before = state(x) + written(x) + x.errorPosition();
            noState("append", () -> x.append(1, 2, 3, 4, 5));
            noArgument("load", () -> x.load(401));
            noArgument("load of less", () -> x.load(-1));
            noState("connect", () -> x.connect(1, true));
            noState("fetch of nothing", () -> x.fetch(0, 0));
            noState("fetch of the banned one", () -> x.fetch(1, 1));
            noState("search", () -> x.search(0));
            noElement("queriesFor", () -> x.queriesFor(0));
            noState("drop", () -> x.drop(7));
            noArgument("run", () -> x.run(301));
            noArgument("keep", () -> x.keep(1000));
            noState("resume", () -> x.resume(0));
            noElement("named", () -> x.named(9));
            noElement("sized", () -> x.sized(9));
            noArgument("rename", () -> x.rename(0, 1000));
            noArgument("spoil", () -> x.spoil(0, 0, 0));
            noIndex("discard", () -> x.discard(1));
            equal("nothing changed", before, state(x) + written(x) + x.errorPosition());
            equal("six changes and no more", 5, x.undo());
            equal("the buffer is as it was", -2, x.load(400));
            equal("full of spaces", 400, x.errorPosition());
            PieceTransfer y = new PieceTransfer();
            noState("undo", y, () -> y.undo());
            noIndex("writtenByte", y, () -> y.writtenByte(0));
        });
    }

    private static void firstNamed() {
        says("If several exceptions apply, the one named first is thrown.", () -> {
            PieceTransfer x = loaded("file 8 0 pieces 4 4;flaw 0 1;blame 1;");
            catchOut(x);
            noIndex("source", () -> x.source(2, 5));
            noIndex("piece", () -> x.piece(2, 7));
            noIndex("part", () -> x.part(2, 5));
            noIndex("checksum of no source", () -> x.checksum(2, 0, 0));
            noIndex("checksum from nowhere", () -> x.checksum(0, 8, 1));
            noIndex("connect", () -> x.connect(2, true));
            noIndex("fetch from no source", () -> x.fetch(2, 0));
            noIndex("fetch of no piece from the banned one", () -> x.fetch(1, 2));
            noIndex("search", () -> x.search(2));
            noIndex("queriesFor", () -> x.queriesFor(2));
            noIndex("drop", () -> x.drop(2));
            noArgument("keep", () -> x.keep(1000));
            x.fetch(0, 0);
            noIndex("resume", () -> x.resume(0));
            noIndex("rename", () -> x.rename(0, 1000));
            noIndex("spoil", () -> x.spoil(0, 0, 0));
            noIndex("partial", () -> x.partial(0, 5));
            x.keep(1);
            noIndex("spoil of no place", () -> x.spoil(0, 4, 256));
            noIndex("event", () -> x.event(40, 3));
            x.connect(0, false);
            noIndex("search without source 0", () -> x.search(2));
            for (int name = 2; name <= 4; name++) {
                x.connect(0, true);
                x.fetch(0, 0);
                x.keep(name);
            }
            noArgument("keep of a fifth one", () -> x.keep(-1));
        });
    }

    interface Indexed {
        Object ask(PieceTransfer x, int index);
    }

    /** Four partial files are kept and all has arrived, but pieces 0 and 2 are suspect. */
    private static void index(String what, int size, Indexed indexed) {
        PieceTransfer x = loaded("file 20 3 pieces 8 3;flaw 0 1;flaw 19 1;blame 99;");
        for (int name = 1; name <= 4; name++) {
            x.fetch(1, 0);
            x.keep(name);
        }
        for (int piece = 0; piece < 3; piece++) {
            x.fetch(1, piece);
        }
        x.writeMap();
        indexes(what, x, size, k -> indexed.ask(x, k));
    }

    private static void noSuchIndex() {
        says("An IndexOutOfBoundsException is thrown if a source, place, piece, part, partial file "
                + "or other index does not exist.", () -> {
            index("source of source", 2, (x, k) -> x.source(k, 0));
            index("source of sent", 2, (x, k) -> x.sent(k, 0));
            index("source of checksum", 2, (x, k) -> x.checksum(k, 0, 1));
            index("source of connect", 2, (x, k) -> x.connect(k, true));
            index("place of sent", 20, (x, k) -> x.sent(1, k));
            index("place of got", 20, (x, k) -> x.got(k));
            index("place of checksum", 20, (x, k) -> x.checksum(0, k, 1));
            index("place of spoil", 8, (x, k) -> x.spoil(1, k, 1));
            index("piece of piece", 3, (x, k) -> x.piece(k, 0));
            index("piece of search", 3, (x, k) -> x.search(k));
            index("piece of queriesFor", 3, (x, k) -> x.queriesFor(k));
            index("part of part", 8, (x, k) -> x.part(k, 0));
            index("part of drop", 8, (x, k) -> x.drop(k));
            index("partial of rename", 4, (x, k) -> x.rename(k, 1));
            index("partial of spoil", 4, (x, k) -> x.spoil(k, 0, 1));
            index("partial of discard", 4, (x, k) -> x.discard(k) + x.undo());
            index("partial of partial", 4, (x, k) -> x.partial(k, 0));
            index("back of event", 31, (x, k) -> x.event(k, 0));
            index("index of writtenByte", 3, (x, k) -> x.writtenByte(k));
            PieceTransfer x = loaded(PLAIN);
            indexes("source of fetch", x, 2, k -> x.fetch(k, k == 0 ? 0 : 1));
            PieceTransfer y = loaded(PLAIN);
            indexes("piece of fetch", y, 3, k -> y.fetch(0, k));
            PieceTransfer z = four();
            indexes("partial of resume", z, 4, k -> z.resume(k) + z.undo());
        });
    }

    private static void constants() {
        says("The constants: `NONE = -1`: The value -1: there is none.", () -> {
            equal("NONE", -1, PieceTransfer.NONE);
            PieceTransfer x = new PieceTransfer();
            equal("no error", PieceTransfer.NONE, x.errorPosition());
            equal("no byte", PieceTransfer.NONE, x.got(0));
            equal("no origin", PieceTransfer.NONE, x.part(0, 3));
            x.connect(0, false);
            x.connect(1, false);
            equal("no end", PieceTransfer.NONE, x.ticksLeft());
        });
        says("`SYNTAX_ERROR = -2`: Error code of load: the text does not follow the grammar.",
                () -> {
            equal("SYNTAX_ERROR", -2, PieceTransfer.SYNTAX_ERROR);
            equal("of load", PieceTransfer.SYNTAX_ERROR, load(new PieceTransfer(), "file;"));
        });
        says("`VALUE_ERROR = -3`: Error code of load: a number that cannot be.", () -> {
            equal("VALUE_ERROR", -3, PieceTransfer.VALUE_ERROR);
            equal("of load", PieceTransfer.VALUE_ERROR, load(new PieceTransfer(), "file 0"));
        });
        says("`TOO_MANY = -4`: Error code of load: there is too much of something.", () -> {
            equal("TOO_MANY", -4, PieceTransfer.TOO_MANY);
            equal("of load", PieceTransfer.TOO_MANY,
                    load(new PieceTransfer(), HEADER + "cut 0 1;".repeat(9)));
        });
        introduces("Ahead of the calls `append`, `load`, `errorPosition`, `count`, `source`, "
                + "`sent`, `got`, `piece`, `part`, `checksum` the interface says: ---- setup.");
        introduces("Ahead of the calls `connect`, `fetch`, `search`, `queriesFor`, `drop`, `run`, "
                + "`ticksLeft` the interface says: ---- transfers.");
        introduces("Ahead of the calls `keep`, `resume`, `named`, `sized`, `rename`, `spoil`, "
                + "`discard`, `partial` the interface says: ---- partial files.");
        introduces("Ahead of the calls `wrongBytes`, `differingParts`, `progress`, `event`, "
                + "`events`, `writeMap`, `writtenByte`, `undo` the interface says: ---- what can "
                + "be told.");
    }
}
