/** Promises 19 to 26, sentence by sentence. */
final class PartialSentences extends Sentences {
    static void test() {
        keep();
        resume();
        named();
        sized();
        rename();
        spoil();
        discard();
        partial();
        piecesOfPartials();
    }

    private static void keep() {
        heading("Promise 19");
        says("`int keep(int name) throws IllegalArgumentException, IllegalStateException`: Keeps "
                + "what has arrived (section 5).", () -> {
            PieceTransfer x = loaded(PLAIN);
            x.run(300);
            x.drop(4);
            x.keep(7);
            equal("the parts 0 to 3", 11, x.partial(0, 1));
            equal("all are missing", "--------", origins(x));
            equal("the event", "7:7:11", latest(x, 1));
        });
        says("- `name`: 0 to 999", () -> {
            PieceTransfer x = loaded(PLAIN);
            x.fetch(0, 0);
            range("name", x, 0, 999, name -> {
                int length = x.keep(name);
                x.fetch(0, 0);
                return length;
            });
            x.keep(999);
            equal("the same name twice", "0 999 999", names(x));
        });
        says("Returns the length of the partial file.", () -> {
            PieceTransfer x = loaded(PLAIN);
            x.fetch(0, 0);
            x.drop(1);
            equal("one part", 3, x.keep(1));
            x.run(300);
            equal("all", 20, x.keep(1));
            PieceTransfer y = loaded("file 240 0 pieces 4 1;");
            y.run(300);
            equal("240", 240, y.keep(1));
            y.fetch(0, 0);
            y.drop(1);
            equal("1", 1, y.keep(1));
        });
        says("Throws `IllegalArgumentException` if name is out of range", () -> {
            PieceTransfer x = loaded(PLAIN);
            noArgument("1000, and nothing is there", x, () -> x.keep(1000));
            x.fetch(0, 0);
            noArgument("-1", x, () -> x.keep(-1));
            noArgument("1000", x, () -> x.keep(1000));
        });
        says("Throws `IllegalStateException` if the first part is missing, or there are 4 partial "
                + "files", () -> {
            PieceTransfer x = loaded(PLAIN);
            noState("all are missing", x, () -> x.keep(1));
            x.run(300);
            x.drop(0);
            noState("only the first one is missing", x, () -> x.keep(1));
            PieceTransfer y = four();
            noState("both", y, () -> y.keep(1));
            y.fetch(0, 0);
            noState("there are four", y, () -> y.keep(1));
            y.discard(3);
            equal("three", 8, y.keep(1));
        });
    }

    private static void resume() {
        heading("Promise 20");
        says("`int resume(int partial) throws IndexOutOfBoundsException, IllegalStateException`: "
                + "Resumes a partial file (section 5).", () -> {
            PieceTransfer x = four();
            x.resume(0);
            equal("3 bytes", "2-------", origins(x));
            equal("it is gone", "2 3 4", names(x));
        });
        says("- `partial`: number of a partial file", () -> {
            PieceTransfer x = four();
            indexes("of four", x, 4, partial -> {
                int good = x.resume(partial);
                x.undo();
                return good;
            });
        });
        says("Returns the number of good pieces then.", () -> {
            PieceTransfer x = four();
            x.spoil(2, 0, 1);
            equal("none", 0, x.resume(0));
            x.undo();
            equal("one", 1, x.resume(1));
            x.undo();
            equal("two of three", 2, x.resume(2));
            x.undo();
            x.undo();
            equal("three", 3, x.resume(2));
        });
        says("Throws `IndexOutOfBoundsException` if the partial file does not exist", () -> {
            PieceTransfer x = loaded(PLAIN);
            noIndex("none", x, () -> x.resume(0));
            x.fetch(0, 0);
            noIndex("none, and a part is present", x, () -> x.resume(0));
            x.keep(1);
            noIndex("-1", x, () -> x.resume(-1));
            noIndex("1", x, () -> x.resume(1));
        });
        says("Throws `IllegalStateException` if some part is present", () -> {
            for (int part = 0; part < 8; part++) {
                PieceTransfer x = four();
                x.connect(1, false);
                x.run(300);
                for (int other = 0; other < 8; other++) {
                    if (other != part) {
                        x.drop(other);
                    }
                }
                noState("part " + part, x, () -> x.resume(0));
                x.drop(part);
                equal("none is", 1, x.resume(1));
            }
        });
    }

    private static void named() {
        heading("Promise 21");
        introduces("`int named(int name) throws NoSuchElementException`: Finds a partial file by "
                + "its name.");
        says("- `name`: any number", () -> {
            PieceTransfer x = four();
            x.rename(0, 0);
            x.rename(3, 999);
            equal("0", 0, x.named(0));
            equal("999", 3, x.named(999));
            int[] none = {-1, 1, 1000, Integer.MIN_VALUE, Integer.MAX_VALUE};
            for (int name : none) {
                noElement("" + name, x, () -> x.named(name));
            }
        });
        says("Returns the number of the partial file with this name that was kept last.", () -> {
            PieceTransfer x = four();
            x.rename(2, 2);
            x.rename(0, 2);
            x.rename(1, 2);
            equal("not that which was renamed last", 2, x.named(2));
            x.discard(3);
            x.fetch(0, 0);
            x.keep(2);
            equal("the new one", 3, x.named(2));
            x.discard(3);
            x.discard(2);
            equal("the one before", 1, x.named(2));
        });
        says("Throws `NoSuchElementException` if there is none", () -> {
            PieceTransfer x = loaded(PLAIN);
            noElement("nothing is kept", x, () -> x.named(0));
            x.fetch(0, 0);
            x.keep(5);
            noElement("another name", x, () -> x.named(8));
            x.resume(0);
            noElement("resumed", x, () -> x.named(5));
        });
    }

    private static void sized() {
        heading("Promise 22");
        introduces("`int sized(int length) throws NoSuchElementException`: Finds a partial file by "
                + "its length.");
        says("- `length`: any number", () -> {
            PieceTransfer x = four();
            equal("3", 0, x.sized(3));
            equal("20", 2, x.sized(20));
            int[] none = {-1, 0, 2, 4, 240, 241, Integer.MIN_VALUE, Integer.MAX_VALUE};
            for (int length : none) {
                noElement("" + length, () -> x.sized(length));
            }
        });
        says("Returns the lowest number of a partial file with this length.", () -> {
            PieceTransfer x = four();
            equal("of two", 1, x.sized(8));
            x.discard(1);
            equal("of one", 2, x.sized(8));
            x.fetch(0, 0);
            x.keep(5);
            equal("not the new one", 2, x.sized(8));
        });
        says("Throws `NoSuchElementException` if there is none", () -> {
            PieceTransfer x = loaded(PLAIN);
            noElement("nothing is kept", x, () -> x.sized(0));
            x.fetch(0, 0);
            x.keep(5);
            noElement("another length", x, () -> x.sized(5));
            x.discard(0);
            noElement("discarded", x, () -> x.sized(8));
        });
    }

    private static void rename() {
        heading("Promise 23");
        says("`int rename(int partial, int name) throws IndexOutOfBoundsException, "
                + "IllegalArgumentException`: Gives a partial file another name.", () -> {
            PieceTransfer x = four();
            int events = x.count(9);
            x.rename(1, 999);
            equal("the second one", "1 999 3 4", names(x));
            x.rename(1, 4);
            equal("a name that is there already", "1 4 3 4", names(x));
            equal("the length stays", 8, x.partial(1, 1));
            equal("no event", events, x.count(9));
        });
        says("- `partial`: number of a partial file", () -> {
            PieceTransfer x = four();
            indexes("of four", x, 4, partial -> x.rename(partial, 5));
            equal("the first and the last one", "5 2 3 5", names(x));
        });
        says("- `name`: 0 to 999", () -> {
            PieceTransfer x = four();
            range("name", x, 0, 999, name -> x.rename(2, name));
            equal("the last one", "1 2 999 4", names(x));
        });
        says("Returns the name before.", () -> {
            PieceTransfer x = four();
            equal("as it was kept", 2, x.rename(1, 0));
            equal("as it was renamed", 0, x.rename(1, 999));
            equal("to the same", 999, x.rename(1, 999));
            equal("all the same a change", 999, x.rename(1, 2));
        });
        says("Throws `IndexOutOfBoundsException` if the partial file does not exist", () -> {
            PieceTransfer x = four();
            noIndex("4", x, () -> x.rename(4, 1));
            noIndex("4, and no name", x, () -> x.rename(4, 1000));
            noIndex("-1, and no name", x, () -> x.rename(-1, -1));
            noIndex("none", () -> new PieceTransfer().rename(0, 1));
        });
        says("Throws `IllegalArgumentException` if name is out of range", () -> {
            PieceTransfer x = four();
            noArgument("1000", x, () -> x.rename(3, 1000));
            noArgument("-1", x, () -> x.rename(0, -1));
        });
    }

    private static void spoil() {
        heading("Promise 24");
        says("`int spoil(int partial, int place, int delta) throws IndexOutOfBoundsException, "
                + "IllegalArgumentException`: Adds a delta to a byte of a partial file modulo 256.",
                () -> {
            PieceTransfer x = four();
            equal("193 + 62", 255, x.spoil(1, 5, 62));
            equal("255 + 1", 0, x.spoil(1, 5, 1));
            equal("0 + 255", 255, x.spoil(1, 5, 255));
            equal("255 + 255", 254, x.spoil(1, 5, 255));
            equal("one byte", 1, x.partial(1, 3));
            equal("of one partial file", 0, x.partial(3, 3) + x.partial(2, 3) + x.partial(0, 3));
            x.resume(1);
            equal("it arrives like this", 254, x.got(5));
        });
        says("- `partial`: number of a partial file", () -> {
            PieceTransfer x = four();
            indexes("of four", x, 4, partial -> x.spoil(partial, 0, 1));
            equal("the first one", 1, x.partial(0, 3));
            equal("the last one", 1, x.partial(3, 3));
        });
        says("- `place`: 0 to the length of the partial file - 1", () -> {
            PieceTransfer x = four();
            indexes("of 3", x, 3, place -> x.spoil(0, place, 1));
            indexes("of 8", x, 8, place -> x.spoil(3, place, 1));
            indexes("of 20", x, 20, place -> x.spoil(2, place, 1));
            equal("the first and the last one", 2, x.partial(2, 3));
        });
        says("- `delta`: 1 to 255", () -> {
            PieceTransfer x = four();
            range("delta", x, 1, 255, delta -> x.spoil(0, 2, delta));
            equal("both make up for each other", 0, x.partial(0, 3));
        });
        says("Returns the byte then.", () -> {
            PieceTransfer x = four();
            equal("3 + 1", 4, x.spoil(0, 0, 1));
            equal("25 + 255", 24, x.spoil(2, 19, 255));
            equal("and again", 23, x.spoil(2, 19, 255));
        });
        says("Throws `IndexOutOfBoundsException` if the partial file or the place does not exist",
                () -> {
            PieceTransfer x = four();
            noIndex("no partial file", x, () -> x.spoil(4, 0, 1));
            noIndex("no partial file and no place", x, () -> x.spoil(-1, -1, 0));
            noIndex("no place", x, () -> x.spoil(0, 3, 1));
            noIndex("no place and no delta", x, () -> x.spoil(0, 3, 256));
            noIndex("no place before the first one", x, () -> x.spoil(0, -1, 0));
        });
        says("Throws `IllegalArgumentException` if delta is out of range", () -> {
            PieceTransfer x = four();
            noArgument("0", x, () -> x.spoil(0, 0, 0));
            noArgument("256", x, () -> x.spoil(0, 0, 256));
            noArgument("-1", x, () -> x.spoil(0, 0, -1));
        });
    }

    private static void discard() {
        heading("Promise 25");
        says("`int discard(int partial) throws IndexOutOfBoundsException`: Throws a partial file "
                + "away.", () -> {
            PieceTransfer x = four();
            x.fetch(0, 2);
            int events = x.count(9);
            x.discard(1);
            equal("the second one", "1 3 4", names(x));
            equal("no event", events, x.count(9));
            equal("what has arrived stays", "------00", origins(x));
        });
        says("- `partial`: number of a partial file", () -> {
            PieceTransfer x = four();
            indexes("of four", x, 4, partial -> {
                int left = x.discard(partial);
                x.undo();
                return left;
            });
            equal("both came back", "1 2 3 4", names(x));
        });
        says("Returns the number of partial files that are left.", () -> {
            PieceTransfer x = four();
            equal("the last one", 3, x.discard(3));
            equal("the first one", 2, x.discard(0));
            equal("then", 1, x.discard(1));
            equal("the only one", 0, x.discard(0));
        });
        says("Throws `IndexOutOfBoundsException` if the partial file does not exist", () -> {
            PieceTransfer x = four();
            noIndex("4", x, () -> x.discard(4));
            x.discard(3);
            noIndex("3", x, () -> x.discard(3));
            noIndex("-1", x, () -> x.discard(-1));
            noIndex("none", () -> new PieceTransfer().discard(0));
        });
    }

    private static void partial() {
        heading("Promise 26");
        introduces("`int partial(int partial, int what) throws IndexOutOfBoundsException, "
                + "IllegalArgumentException`: Returns a number of a partial file.");
        says("- `partial`: number of a partial file", () -> {
            PieceTransfer x = four();
            indexes("of four", x, 4, partial -> x.partial(partial, 4));
        });
        says("- `what`: 0: its name; 1: its length; 2: the checksum of its bytes;", () -> {
            PieceTransfer x = four();
            equal("name", 1, x.partial(0, 0));
            equal("length", 3, x.partial(0, 1));
            equal("checksum", 3 + 2 * 40 + 3 * 77, x.partial(0, 2));
            x.spoil(0, 2, 255);
            equal("checksum of a spoilt one", 3 + 2 * 40 + 3 * 76, x.partial(0, 2));
            equal("the longest one", x.checksum(0, 0, 20), x.partial(2, 2));
            PieceTransfer y = loaded("file 240 52 pieces 48 48;");
            y.run(300);
            y.keep(1);
            equal("modulo 9973", y.checksum(0, 0, 240), y.partial(0, 2));
        });
        says("3: how many of its bytes are other ones than those of source 0 at the same places;",
                () -> {
            PieceTransfer x = loaded("file 20 3 pieces 8 3;flaw 0 1;flaw 7 1;flaw 8 1;");
            x.fetch(1, 0);
            x.keep(1);
            equal("the first and the last one", 2, x.partial(0, 3));
            x.spoil(0, 7, 255);
            equal("the last one is right again", 1, x.partial(0, 3));
            x.spoil(0, 3, 7);
            equal("another one", 2, x.partial(0, 3));
            equal("none", 0, four().partial(2, 3));
        });
    }

    private static void piecesOfPartials() {
        says("4: the pieces from the first one on whose bytes are all in it and have the checksums "
                + "of the manifest, up to the one before the first piece for which this is not so",
                () -> {
            PieceTransfer x = loaded(PLAIN);
            int[] ends = {3, 6, 8, 11, 14, 16, 19, 20};
            int[] pieces = {0, 0, 1, 1, 1, 2, 2, 3};
            for (int parts = 1; parts <= 8; parts++) {
                x.run(300);
                for (int part = parts; part < 8; part++) {
                    x.drop(part);
                }
                equal("the length", ends[parts - 1], x.keep(parts));
                equal(parts + " parts", pieces[parts - 1], x.partial(0, 4));
                x.discard(0);
            }
            x.run(300);
            x.keep(1);
            x.spoil(0, 19, 1);
            equal("the last one is wrong", 2, x.partial(0, 4));
            x.spoil(0, 0, 1);
            equal("the first one is wrong", 0, x.partial(0, 4));
            x.spoil(0, 0, 255);
            x.spoil(0, 9, 1);
            equal("the second one is wrong", 1, x.partial(0, 4));
            x.undo();
            x.spoil(0, 8, 2);
            x.spoil(0, 9, 255);
            equal("other bytes with the same checksum", 2, x.partial(0, 4));
            // byte 3 is 0, so that the checksum does not tell whether it is there
            PieceTransfer y = loaded("file 4 139 pieces 4 3;");
            y.run(1);
            y.drop(1);
            y.keep(1);
            equal("the checksum of three bytes", y.piece(0, 5), y.partial(0, 2));
            equal("not all bytes are in it", 0, y.partial(0, 4));
        });
        introduces("Returns the requested number.");
        says("Throws `IndexOutOfBoundsException` if the partial file does not exist", () -> {
            PieceTransfer x = four();
            for (int what = -1; what <= 5; what++) {
                int one = what;
                noIndex("4", () -> x.partial(4, one));
                noIndex("-1", () -> x.partial(-1, one));
            }
            noIndex("none", () -> new PieceTransfer().partial(0, 0));
        });
        says("Throws `IllegalArgumentException` for any other what", () -> {
            PieceTransfer x = four();
            range("what", x, 0, 4, what -> x.partial(3, what));
        });
    }
}
