/** Promises 12 to 18, sentence by sentence. */
final class TransferSentences extends Sentences {
    static void test() {
        connect();
        fetch();
        fetchRefused();
        search();
        queriesFor();
        drop();
        run();
        ticksLeft();
    }

    private static void connect() {
        heading("Promise 12");
        says("`boolean connect(int source, boolean on) throws IndexOutOfBoundsException, "
                + "IllegalStateException`: Connects a source or disconnects it.", () -> {
            PieceTransfer x = loaded(PLAIN);
            x.connect(0, false);
            x.connect(1, false);
            equal("both are off", 0, x.run(300));
            x.connect(1, true);
            equal("one is on", 1, x.run(1));
            equal("source 1", "-------1", origins(x));
            equal("no event of it", 1, x.count(9));
        });
        says("- `source`: 0 or 1", () -> {
            PieceTransfer x = loaded(PLAIN);
            indexes("on", x, 2, source -> x.connect(source, true));
            indexes("off", x, 2, source -> x.connect(source, false));
        });
        says("- `on`: whether it is connected from now on", () -> {
            PieceTransfer x = loaded("file 20 3 pieces 8 3;cut 1 1;");
            x.connect(1, false);
            equal("off", 0, x.source(1, 0));
            x.connect(1, false);
            equal("off again", 0, x.source(1, 0));
            x.connect(1, true);
            equal("on", 1, x.source(1, 0));
            x.connect(1, true);
            equal("on again", 1, x.source(1, 0));
            x.fetch(1, 0);
            equal("cut", 0, x.source(1, 0));
            x.connect(1, true);
            equal("on behind a cut", 1, x.source(1, 0));
        });
        says("Returns whether it was connected before.", () -> {
            PieceTransfer x = loaded("file 4 0 pieces 4 4;flaw 0 1;blame 1;");
            for (int source = 0; source < 2; source++) {
                isTrue("it was", x.connect(source, false));
                isTrue("it was not", !x.connect(source, false));
                isTrue("it was not yet", !x.connect(source, true));
                isTrue("it was already", x.connect(source, true));
            }
            catchOut(x);
            isTrue("the banned one was not", !x.connect(1, false));
        });
        says("Throws `IndexOutOfBoundsException` if the source does not exist", () -> {
            PieceTransfer x = loaded("file 4 0 pieces 4 4;flaw 0 1;blame 1;");
            catchOut(x);
            noIndex("2", x, () -> x.connect(2, true));
            noIndex("-1", x, () -> x.connect(-1, false));
        });
        says("Throws `IllegalStateException` if a banned source is to be connected", () -> {
            PieceTransfer x = loaded("file 4 0 pieces 4 4;flaw 0 1;blame 1;");
            x.connect(1, true);
            catchOut(x);
            noState("banned", x, () -> x.connect(1, true));
            isTrue("source 0 is not", x.connect(0, true));
            isTrue("to be disconnected", !x.connect(1, false));
            x.undo();
            x.undo();
            x.undo();
            isTrue("banned no more", x.connect(1, true));
        });
    }

    private static void fetch() {
        heading("Promise 13");
        says("`int fetch(int source, int piece) throws IndexOutOfBoundsException, "
                + "IllegalStateException`: Transfers the missing parts of a piece from a source, "
                + "in ascending order, as long as the source is connected.", () -> {
            PieceTransfer x = loaded("file 20 3 pieces 8 2;cut 0 3;");
            x.fetch(1, 1);
            x.drop(4);
            x.drop(6);
            x.drop(7);
            x.fetch(0, 1);
            equal("those that were missing", "----0100--", origins(x));
            equal("in order", "0:4:0 0:6:0 0:7:0 1:1:0 5:0:3", latest(x, 5));
            PieceTransfer y = loaded("file 20 3 pieces 8 2;cut 0 3;");
            equal("until the cut", 3, y.fetch(0, 0));
            equal("the last one lacks", "000-------", origins(y));
            equal("the cut comes last", "0:2:0 5:0:3", latest(y, 2));
        });
        says("- `source`: 0 or 1", () -> {
            PieceTransfer x = loaded(PLAIN);
            indexes("source", x, 2, source -> x.fetch(source, 1 - Math.abs(source % 2)));
        });
        says("- `piece`: number of a piece", () -> {
            PieceTransfer x = loaded("file 240 0 pieces 4 4;");
            indexes("60 pieces", x, 60, piece -> x.fetch(1, piece));
            PieceTransfer y = new PieceTransfer();
            indexes("one piece", y, 1, piece -> y.fetch(0, piece));
        });
        says("Returns how many parts have arrived.", () -> {
            PieceTransfer x = loaded("file 48 0 pieces 48 1;cut 1 1;");
            equal("cut with the first one", 1, x.fetch(1, 0));
            equal("the others", 47, x.fetch(0, 0));
            x.drop(20);
            equal("one", 1, x.fetch(0, 0));
            equal("all", 48, loaded("file 48 0 pieces 48 1;").fetch(0, 0));
            equal("the shorter piece", 2, loaded(PLAIN).fetch(0, 2));
        });
    }

    private static void fetchRefused() {
        says("Throws `IndexOutOfBoundsException` if the source or the piece does not exist", () -> {
            PieceTransfer x = loaded(PLAIN);
            x.fetch(1, 0);
            x.connect(1, false);
            noIndex("no source", x, () -> x.fetch(2, 0));
            noIndex("no piece", x, () -> x.fetch(1, 3));
            noIndex("no piece before the first one", x, () -> x.fetch(0, -1));
            noIndex("neither", x, () -> x.fetch(-1, 3));
        });
        says("Throws `IllegalStateException` if the source is not connected, or no part of the "
                + "piece is missing", () -> {
            PieceTransfer x = loaded("file 8 0 pieces 4 2;flaw 0 1;cut 1 3;");
            x.fetch(1, 0);
            noState("a suspect piece", x, () -> x.fetch(0, 0));
            x.fetch(1, 1);
            noState("cut", x, () -> x.fetch(1, 1));
            x.connect(0, false);
            noState("not connected", x, () -> x.fetch(0, 1));
            noState("neither connected nor missing", x, () -> x.fetch(0, 0));
            x.connect(0, true);
            equal("one is missing", 1, x.fetch(0, 1));
            noState("a good piece", x, () -> x.fetch(0, 1));
        });
    }

    private static void search() {
        heading("Promise 14");
        says("`int search(int piece) throws IndexOutOfBoundsException, IllegalStateException`: "
                + "Searches a suspect piece (section 3).", () -> {
            PieceTransfer x = loaded("file 16 0 pieces 16 2;flaw 3 1;flaw 12 1;blame 2;");
            x.fetch(1, 0);
            x.search(0);
            equal("two of eight parts", "1-1111-1", origins(x));
            equal("events", "3:1:1 3:6:1 6:1:2", latest(x, 3));
            equal("not suspect any more", 0, x.count(6));
        });
        says("- `piece`: number of a piece", () -> {
            PieceTransfer x = loaded("file 20 3 pieces 8 3;flaw 0 1;flaw 19 1;");
            x.fetch(1, 0);
            x.fetch(1, 2);
            indexes("the first and the last one", x, 3, piece -> x.search(piece));
            equal("both were searched", "-11---1-", origins(x));
        });
        says("Returns the number of queries.", () -> {
            PieceTransfer x = loaded("file 9 0 pieces 4 4;flaw 0 1;flaw 8 1;");
            x.fetch(1, 0);
            equal("none", 0, x.search(0));
            PieceTransfer y = loaded("file 16 0 pieces 16 2;flaw 3 1;flaw 12 1;");
            y.fetch(1, 0);
            equal("2 in each of five ranges", 10, y.search(0));
            equal("counted", 10, y.count(4));
            y.fetch(1, 0);
            equal("those of this search alone", 10, y.search(0));
            equal("counted together", 20, y.count(4));
            PieceTransfer z = loaded("file 48 0 pieces 48 1;");
            z.fetch(0, 0);
            z.keep(1);
            for (int place = 0; place < 48; place++) {
                z.spoil(0, place, 1);
            }
            z.resume(0);
            equal("2 in each of 47 ranges", 94, z.search(0));
            equal("all were wrong", 48, z.count(10));
        });
        says("Throws `IndexOutOfBoundsException` if the piece does not exist", () -> {
            PieceTransfer x = loaded("file 8 0 pieces 4 4;flaw 0 1;");
            x.fetch(1, 0);
            noIndex("2", x, () -> x.search(2));
            x.connect(0, false);
            noIndex("-1 without source 0", x, () -> x.search(-1));
        });
        says("Throws `IllegalStateException` if it is not suspect, or source 0 is not connected",
                () -> {
            PieceTransfer x = loaded("file 12 0 pieces 4 4;flaw 0 1;");
            noState("missing", x, () -> x.search(0));
            x.fetch(1, 0);
            x.fetch(1, 1);
            noState("good", x, () -> x.search(1));
            x.connect(0, false);
            noState("without source 0", x, () -> x.search(0));
            noState("good without source 0", x, () -> x.search(1));
            x.connect(0, true);
            x.connect(1, false);
            equal("without source 1", 0, x.search(0));
            noState("once more", x, () -> x.search(0));
        });
    }

    private static void queriesFor() {
        heading("Promise 15");
        says("`int queriesFor(int piece) throws IndexOutOfBoundsException, "
                + "NoSuchElementException`: Tells how many queries a search of a piece would need "
                + "now; nothing changes, and it does not matter whether source 0 is connected.",
                () -> {
            PieceTransfer x = loaded("file 16 0 pieces 8 2;flaw 3 1;flaw 12 1;blame 1;");
            x.fetch(1, 0);
            x.fetch(1, 1);
            String before = state(x);
            equal("the second part of four", 4, x.queriesFor(0));
            equal("the third part of four", 4, x.queriesFor(1));
            equal("nothing changes", before, state(x));
            x.connect(0, false);
            equal("without source 0", 4, x.queriesFor(0));
            equal("it is no change", 3, x.undo());
            equal("as many as the search", 4, x.search(0));
        });
        says("- `piece`: number of a piece", () -> {
            PieceTransfer x = loaded("file 20 3 pieces 8 3;flaw 0 1;flaw 19 1;");
            x.fetch(1, 0);
            x.fetch(1, 2);
            indexes("the first and the last one", x, 3, piece -> x.queriesFor(piece));
        });
        says("Returns the number of queries.", () -> {
            PieceTransfer x = loaded("file 4 0 pieces 4 4;flaw 0 1;");
            x.fetch(1, 0);
            equal("a single part", 0, x.queriesFor(0));
            PieceTransfer y = loaded(ENDLESS);
            y.fetch(1, 0);
            equal("a search in vain", 2, y.queriesFor(0));
            PieceTransfer z = loaded("file 5 0 pieces 5 1;flaw 0 1;flaw 4 1;");
            z.fetch(1, 0);
            equal("an odd number", 8, z.queriesFor(0));
        });
        says("Throws `IndexOutOfBoundsException` if the piece does not exist", () -> {
            PieceTransfer x = loaded(PLAIN);
            noIndex("3", x, () -> x.queriesFor(3));
            noIndex("-1", x, () -> x.queriesFor(-1));
        });
        says("Throws `NoSuchElementException` if it is not suspect", () -> {
            PieceTransfer x = loaded("file 8 0 pieces 4 2;flaw 0 1;");
            noElement("missing", x, () -> x.queriesFor(0));
            x.fetch(1, 0);
            x.fetch(1, 1);
            noElement("good", x, () -> x.queriesFor(1));
            x.drop(1);
            noElement("not any more", x, () -> x.queriesFor(0));
        });
    }

    private static void drop() {
        heading("Promise 16");
        says("`int drop(int part) throws IndexOutOfBoundsException, IllegalStateException`: Makes "
                + "a present part missing, whatever it is (without blame and without an event).",
                () -> {
            PieceTransfer x = loaded("file 20 3 pieces 8 3;flaw 0 1;flaw 8 1;blame 1;");
            x.fetch(1, 0);
            x.fetch(0, 1);
            x.fetch(0, 2);
            x.drop(6);
            int events = x.count(9);
            x.drop(0);
            x.drop(4);
            x.drop(7);
            equal("of a suspect, a good and an incomplete piece", "-110-0--", origins(x));
            equal("no event", events, x.count(9));
            equal("no blame of source 0", 0, x.source(0, 3));
            equal("no blame of source 1", 0, x.source(1, 3));
            equal("no ban", 0, x.source(1, 1));
            equal("not by a search", 0, x.count(10));
            equal("not sent back", 5, x.source(0, 2));
        });
        says("- `part`: number of a part", () -> {
            PieceTransfer x = loaded("file 240 0 pieces 4 1;");
            x.run(300);
            indexes("240 parts", x, 240, part -> x.drop(part));
        });
        says("Returns its origin before.", () -> {
            PieceTransfer x = loaded(PLAIN);
            x.fetch(0, 0);
            x.fetch(1, 1);
            equal("source 0", 0, x.drop(2));
            equal("source 1", 1, x.drop(3));
            x.keep(1);
            x.resume(0);
            equal("a kept file", 2, x.drop(0));
        });
        says("Throws `IndexOutOfBoundsException` if the part does not exist", () -> {
            PieceTransfer x = loaded(PLAIN);
            noIndex("8", x, () -> x.drop(8));
            noIndex("-1", x, () -> x.drop(-1));
        });
        says("Throws `IllegalStateException` if it is missing", () -> {
            PieceTransfer x = loaded(PLAIN);
            noState("at first", x, () -> x.drop(0));
            x.fetch(0, 0);
            x.drop(0);
            noState("dropped", x, () -> x.drop(0));
            equal("the next one is there", 0, x.drop(1));
        });
    }

    private static void run() {
        heading("Promise 17");
        says("`int run(int most) throws IllegalArgumentException`: Runs (section 4).", () -> {
            PieceTransfer x = loaded(TEXT);
            x.run(300);
            equal("the latest events", "0:1:0 0:6:1 1:2:0 0:2:0 1:0:0 0:5:1 0:3:0 0:4:1 1:1:0 "
                    + "5:1:4", latest(x, 10));
        });
        says("This is one change, also if no tick is made.", () -> {
            PieceTransfer x = loaded(PLAIN);
            x.run(300);
            x.run(300);
            x.run(1);
            equal("three runs and the load", 3, x.undo());
            equal("finished still", 0, x.ticksLeft());
            equal("the second one", 2, x.undo());
            equal("finished still", 0, x.ticksLeft());
            equal("the first one", 1, x.undo());
            equal("all four ticks at once", 4, x.ticksLeft());
        });
        says("- `most`: the number of ticks, 1 to 300", () -> {
            PieceTransfer x = loaded(ENDLESS);
            range("most", x, 1, 300, most -> x.run(most));
            equal("301 ticks", 602, x.count(3));
        });
        says("Returns the number of ticks that were made.", () -> {
            PieceTransfer x = loaded(PLAIN);
            equal("as many as it was told", 3, x.run(3));
            equal("until it was finished", 1, x.run(3));
            equal("none", 0, x.run(3));
            PieceTransfer y = loaded("file 20 3 pieces 8 3;cut 0 2;cut 1 1;");
            equal("until nothing could be done", 2, y.run(300));
        });
        says("Throws `IllegalArgumentException` if most is out of range", () -> {
            PieceTransfer x = loaded(PLAIN);
            noArgument("0", x, () -> x.run(0));
            noArgument("301", x, () -> x.run(301));
            noArgument("-1", x, () -> x.run(-1));
            x.run(300);
            noArgument("301 when finished", x, () -> x.run(301));
        });
    }

    private static void ticksLeft() {
        heading("Promise 18");
        says("`int ticksLeft()`: Tells how many ticks a run would need until the file is finished; "
                + "nothing changes.", () -> {
            PieceTransfer x = loaded(TEXT);
            x.fetch(1, 0);
            String before = state(x);
            int left = x.ticksLeft();
            equal("nothing changes", before, state(x));
            equal("no change", 1, x.undo());
            x.fetch(1, 0);
            equal("as many as a run", left, x.run(300));
            equal("it is finished then", 3, x.count(5));
        });
        says("Returns the number of ticks, 0 to 600;", () -> {
            PieceTransfer x = loaded("file 9 0 pieces 4 4;");
            equal("2", 2, x.ticksLeft());
            x.run(1);
            equal("1", 1, x.ticksLeft());
            x.run(1);
            equal("0", 0, x.ticksLeft());
            // source 1 spoils a tick with each part that it sends; then source 0 needs two
            equal("599", 599, loaded(ENDLESS + "cut 1 597;").ticksLeft());
            PieceTransfer y = loaded(ENDLESS + "cut 1 598;");
            equal("600", 600, y.ticksLeft());
            equal("a run of 300", 300, y.run(300));
            equal("a run of 300 again", 300, y.run(300));
            equal("it is finished then", 0, y.ticksLeft());
        });
        says("NONE if the file would not be finished within 600 ticks.", () -> {
            equal("601", -1, loaded(ENDLESS + "cut 1 599;").ticksLeft());
            equal("never", -1, loaded(ENDLESS).ticksLeft());
            PieceTransfer x = loaded("file 8 0 pieces 4 4;flaw 0 1;");
            x.connect(0, false);
            equal("a suspect piece stays", -1, x.ticksLeft());
            x.connect(1, false);
            equal("nothing can be done", -1, x.ticksLeft());
            x.connect(0, true);
            equal("source 0 alone", 2, x.ticksLeft());
        });
    }
}
