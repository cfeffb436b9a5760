/** Promises 12 to 18. */
public final class TransfersTest {
    private static final String TEXT =
            "file 20 3 pieces 8 3; flaw 5 10; break 2 1 7; cut 1 4; blame 2;";
    /** Each tick brings the same hidden error, which no half shows: all parts are dropped. */
    private static final String ENDLESS = "file 4 0 pieces 4 2; flaw 2 2; flaw 3 255;";

    public static void main(String[] args) {
        connecting();
        fetching();
        breaking();
        manyBreaksAndCuts();
        cutting();
        searching();
        searchingSmallPieces();
        searchingInVain();
        blaming();
        banning();
        askingForQueries();
        dropping();
        running();
        runningAlone();
        runningWithSearches();
        ticksLeft();
        Check.end();
    }

    private static void connecting() {
        PieceTransfer x = Check.loaded("file 4 0 pieces 4 4; flaw 0 1; blame 1;");
        Check.isTrue("12: was connected", x.connect(0, false));
        Check.equal("12: is not", 0, x.source(0, 0));
        Check.isTrue("12: was not", !x.connect(0, false));
        Check.isTrue("12: was not either", !x.connect(0, true));
        Check.equal("12: is again", 1, x.source(0, 0));
        Check.isTrue("12: source 1 was all the time", x.connect(1, true));
        Check.equal("12: no events", 0, x.count(9));
        Check.equal("12: five changes", 4, x.undo());
        Check.noIndex("12: source 2", () -> x.connect(2, true));
        Check.noIndex("12: source -1", () -> x.connect(-1, false));
        x.fetch(1, 0);
        x.search(0);
        Check.noState("12: banned", () -> x.connect(1, true));
        Check.isTrue("12: banned, off", !x.connect(1, false));
        Check.isTrue("12: source 0 is not banned", x.connect(0, true));
        Check.equal("12: a throw was no change", 7, x.undo());
        Check.equal("12: nor was the off undone", 6, x.undo());
        Check.equal("12: still banned", 1, x.source(1, 1));
    }

    private static void fetching() {
        PieceTransfer x = Check.loaded(TEXT);
        Check.equal("13: three", 3, x.fetch(1, 0));
        Check.equal("13: arrivals and the judgement", "0:0:1 0:1:1 0:2:1 2:0:0",
                Check.latest(x, 4));
        Check.equal("13: until the cut", 1, x.fetch(1, 1));
        Check.equal("13: cut", "0:3:1 5:1:4", Check.latest(x, 2));
        Check.equal("13: part 4 is missing", -1, x.part(4, 3));
        Check.noState("13: not connected", () -> x.fetch(1, 1));
        Check.noState("13: nothing missing", () -> x.fetch(0, 0));
        Check.equal("13: those that are missing", 2, x.fetch(0, 1));
        Check.equal("13: good", "0:4:0 0:5:0 1:1:0", Check.latest(x, 3));
        Check.equal("13: origins are mixed", 1, x.part(3, 3));
        Check.equal("13: transfers of both", 6, x.count(3));
        Check.noIndex("13: source 2", () -> x.fetch(2, 0));
        Check.noIndex("13: source -1", () -> x.fetch(-1, 0));
        Check.noIndex("13: piece 3", () -> x.fetch(0, 3));
        Check.noIndex("13: piece -1, though not connected", () -> x.fetch(1, -1));
        Check.equal("13: throws are no transfers", 6, x.count(3));
        x.connect(1, true);
        Check.equal("13: connected again", 2, x.fetch(1, 2));
        Check.equal("13: sent", 6, x.source(1, 2));
        Check.equal("13: not cut again", 1, x.source(1, 0));
    }

    private static void breaking() {
        PieceTransfer x = Check.loaded("file 20 3 pieces 8 3; break 3 2 9; break 1 0 254;"
                + "break 1 0 3;break 2 2 250;break 4 2 1;");
        x.fetch(0, 0);
        Check.equal("13: two breaks of one byte, modulo 256", (3 + 254 + 3) % 256, x.got(0));
        Check.equal("13: not the other bytes", 40, x.got(1));
        Check.equal("13: the last byte of a part", (193 + 250) % 256, x.got(5));
        Check.equal("13: an offset behind the part", 20, x.got(7));
        Check.equal("13: nor the part behind it", -1, x.got(8));
        Check.equal("13: suspect", 2, x.piece(0, 6));
        x.drop(0);
        x.fetch(1, 0);
        Check.equal("13: another transfer", 77 + 1, x.got(2));
        Check.equal("13: and without the first break", 3, x.got(0));
        x.drop(0);
        x.fetch(0, 0);
        Check.equal("13: the fifth one is not broken", 0, x.part(0, 4));
        PieceTransfer y = Check.loaded("file 8 0 pieces 8 2; flaw 2 5; break 5 2 9;");
        y.fetch(0, 0);
        y.drop(0);
        y.fetch(1, 0);
        Check.equal("13: the flaw of the part behind it", 74, y.got(2));
        Check.equal("13: nor a break at an offset of just its length", 0, y.wrongBytes());
    }

    private static void manyBreaksAndCuts() {
        StringBuilder breaks = new StringBuilder("file 12 0 pieces 12 1;");
        for (int k = 1; k <= 12; k++) {
            breaks.append("break ").append(k).append(" 0 ").append(k).append(';');
        }
        PieceTransfer x = Check.loaded(breaks.toString());
        x.fetch(0, 0);
        for (int place = 0; place < 12; place++) {
            Check.equal("13: break " + place, x.sent(0, place) + place + 1, x.got(place));
        }
        StringBuilder cuts = new StringBuilder("file 12 0 pieces 12 1;");
        for (int k = 1; k <= 8; k++) {
            cuts.append("cut 1 ").append(k).append(';');
        }
        PieceTransfer y = Check.loaded(cuts.toString());
        for (int k = 1; k <= 8; k++) {
            Check.equal("13: cut " + k, 1, y.fetch(1, 0));
            y.connect(1, true);
        }
        Check.equal("13: no ninth one", 4, y.fetch(1, 0));
    }

    private static void cutting() {
        PieceTransfer x = Check.loaded("file 8 0 pieces 8 2; cut 0 1; cut 0 1; cut 0 3; cut 1 2;");
        Check.equal("13: cut behind the first", 1, x.fetch(0, 0));
        Check.equal("13: one event for two cuts", 2, x.count(9));
        Check.equal("13: the event", "0:0:0 5:0:1", Check.latest(x, 2));
        Check.equal("13: source 1 is not cut", 1, x.source(1, 0));
        x.connect(0, true);
        Check.equal("13: the number of both sources does not cut", 2, x.fetch(0, 0));
        Check.equal("13: cut again", "0:1:0 0:2:0 5:0:3", Check.latest(x, 3));
        Check.equal("13: the last part", 1, x.fetch(1, 0));
        Check.equal("13: five arrivals, cuts and a judgement", 7, x.count(9));
        x.drop(3);
        x.fetch(1, 0);
        Check.equal("13: the judgement comes before the cut", "0:3:1 1:0:0 5:1:2",
                Check.latest(x, 3));
        Check.equal("13: disconnected", 0, x.source(1, 0));
    }

    private static void searching() {
        // parts 1 and 6 of eight are wrong
        PieceTransfer x = Check.loaded("file 16 0 pieces 16 2; flaw 3 1; flaw 12 1; blame 2;");
        x.fetch(1, 0);
        Check.equal("15: queries before", 10, x.queriesFor(0));
        Check.equal("14: queries", 10, x.search(0));
        Check.equal("14: events", "3:1:1 3:6:1 6:1:2", Check.latest(x, 3));
        Check.equal("14: counted", 10, x.count(4));
        Check.equal("14: dropped", 2, x.count(10));
        Check.equal("14: part 1", -1, x.part(1, 3));
        Check.equal("14: part 6", -1, x.part(6, 3));
        Check.equal("14: part 0", 1, x.part(0, 3));
        Check.equal("14: missing", 2, x.piece(0, 4));
        Check.noState("14: not suspect", () -> x.search(0));
        x.fetch(0, 0);
        Check.noState("14: good", () -> x.search(0));
        Check.noIndex("14: piece 1", () -> x.search(1));
        Check.noIndex("14: piece -1", () -> x.search(-1));
        PieceTransfer y = Check.loaded("file 16 0 pieces 16 2; flaw 3 1;");
        y.fetch(1, 0);
        y.connect(0, false);
        Check.noState("14: source 0 is not connected", () -> y.search(0));
        Check.equal("14: nothing was asked", 0, y.count(4));
        y.connect(0, true);
        y.connect(1, false);
        Check.equal("14: source 1 is not needed", 6, y.search(0));
        Check.equal("14: the first half is the greater one", 4, threeParts(0).search(0));
        Check.equal("14: within it", 4, threeParts(2).search(0));
        Check.equal("14: the single part", 2, threeParts(4).search(0));
    }

    private static PieceTransfer threeParts(int flaw) {
        PieceTransfer x = Check.loaded("file 6 0 pieces 6 2; flaw " + flaw + " 1;");
        x.fetch(1, 0);
        return x;
    }

    private static void searchingSmallPieces() {
        PieceTransfer x = Check.loaded("file 4 0 pieces 4 4; flaw 0 1;");
        x.fetch(1, 0);
        Check.equal("15: a single part", 0, x.queriesFor(0));
        Check.equal("14: a single part is wrong", 0, x.search(0));
        Check.equal("14: without a query", 0, x.count(4));
        Check.equal("14: dropped as wrong", "3:0:1", Check.latest(x, 1));
        Check.equal("14: blame", 1, x.source(1, 3));
        PieceTransfer y = Check.loaded("file 4 0 pieces 4 2; flaw 0 1; flaw 2 1;");
        y.fetch(1, 0);
        Check.equal("14: both are wrong", 2, y.search(0));
        Check.equal("14: in order", "3:0:1 3:1:1", Check.latest(y, 2));
        Check.equal("14: of 48 parts all are wrong", 94, allWrong().search(0));
    }

    private static PieceTransfer allWrong() {
        PieceTransfer x = Check.loaded("file 48 0 pieces 48 1; blame 99;");
        x.fetch(0, 0);
        x.keep(1);
        for (int place = 0; place < 48; place++) {
            x.spoil(0, place, 1);
        }
        x.resume(0);
        return x;
    }

    private static void searchingInVain() {
        // in the half the deltas 2 and -1 add up to 1 * 2 - 2 * 1 = 0, in the piece to 2
        PieceTransfer x = Check.loaded("file 8 0 pieces 4 2; flaw 6 2; flaw 7 255; blame 1;");
        x.fetch(1, 0);
        x.fetch(1, 1);
        Check.equal("14: suspect", 2, x.piece(1, 6));
        Check.equal("15: in vain", 2, x.queriesFor(1));
        Check.equal("14: in vain", 2, x.search(1));
        Check.equal("14: all are dropped", "4:1:0", Check.latest(x, 1));
        Check.equal("14: missing", 2, x.piece(1, 4));
        Check.equal("14: not those of another piece", 0, x.piece(0, 4));
        Check.equal("14: dropped", 2, x.count(10));
        Check.equal("14: no blame", 0, x.source(1, 3));
        Check.equal("14: not banned", 0, x.source(1, 1));
        PieceTransfer y = Check.loaded("file 4 0 pieces 4 2; flaw 2 4; flaw 3 254; flaw 0 1;");
        y.fetch(1, 0);
        Check.equal("14: one is found, one is not", 2, y.search(0));
        Check.equal("14: only the one is dropped", "3:0:1", Check.latest(y, 1));
        Check.equal("14: the other one stays", 1, y.part(1, 3));
        PieceTransfer z = Check.loaded("file 4 0 pieces 4 2; flaw 0 2; flaw 1 255;");
        z.fetch(1, 0);
        Check.equal("14: taken to be good", 1, z.piece(0, 6));
        Check.equal("14: though wrong", 2, z.wrongBytes());
    }

    private static void blaming() {
        PieceTransfer x = Check.loaded("file 8 0 pieces 8 2; break 1 0 1; blame 1;");
        x.fetch(0, 0);
        x.search(0);
        Check.equal("14: blame of source 0", 1, x.source(0, 3));
        Check.equal("14: source 0 is never banned", 1, x.source(0, 0));
        Check.equal("14: no event of a ban", "3:0:0", Check.latest(x, 1));
        x.fetch(0, 0);
        x.keep(5);
        x.spoil(0, 0, 1);
        x.resume(0);
        x.search(0);
        Check.equal("14: a kept part is dropped too", "3:0:2", Check.latest(x, 1));
        Check.equal("14: counted", 2, x.count(10));
        Check.equal("14: without blame of source 0", 1, x.source(0, 3));
        Check.equal("14: without blame of source 1", 0, x.source(1, 3));
    }

    private static void banning() {
        PieceTransfer x = Check.loaded("file 12 0 pieces 4 4; flaw 0 1; flaw 4 1; flaw 8 1;"
                + "blame 2;");
        x.fetch(1, 0);
        x.fetch(1, 1);
        x.fetch(1, 2);
        x.search(1);
        Check.equal("14: not yet", 0, x.source(1, 1));
        x.connect(1, false);
        x.search(0);
        Check.equal("14: banned though not connected", "3:0:1 6:1:2", Check.latest(x, 2));
        x.search(2);
        Check.equal("14: banned but once", "6:1:2 3:2:1", Check.latest(x, 2));
        Check.equal("14: blame goes on", 3, x.source(1, 3));
        Check.noState("14: banned", () -> x.connect(1, true));
        Check.noState("14: no transfers", () -> x.fetch(1, 0));
        PieceTransfer y = Check.loaded("file 8 0 pieces 8 1; flaw 0 1; flaw 3 1; flaw 7 1;"
                + "blame 2;");
        y.fetch(1, 0);
        y.search(0);
        Check.equal("14: the ban comes behind the search", "3:0:1 3:3:1 3:7:1 6:1:3",
                Check.latest(y, 4));
        PieceTransfer z = Check.loaded("file 12 0 pieces 4 4; flaw 0 1; flaw 4 1; flaw 8 1;");
        z.fetch(1, 0);
        z.fetch(1, 1);
        z.search(0);
        z.search(1);
        Check.equal("14: three is the limit", 0, z.source(1, 1));
        z.fetch(1, 2);
        z.search(2);
        Check.equal("14: reached", 1, z.source(1, 1));
    }

    private static void askingForQueries() {
        PieceTransfer x = Check.loaded("file 16 0 pieces 8 2; flaw 3 1; flaw 12 1; blame 1;");
        x.fetch(1, 0);
        x.connect(0, false);
        int events = x.count(9);
        Check.equal("15: not connected", 4, x.queriesFor(0));
        Check.equal("15: no query", 0, x.count(4));
        Check.equal("15: no drop", 4, x.count(7));
        Check.equal("15: no blame", 0, x.source(1, 3));
        Check.equal("15: no event", events, x.count(9));
        Check.equal("15: no ban", 0, x.source(1, 1));
        Check.equal("15: still suspect", 2, x.piece(0, 6));
        Check.noElement("15: incomplete", () -> x.queriesFor(1));
        Check.noIndex("15: piece 2", () -> x.queriesFor(2));
        Check.noIndex("15: piece -1", () -> x.queriesFor(-1));
        x.connect(0, true);
        x.fetch(0, 1);
        Check.noElement("15: good", () -> x.queriesFor(1));
        Check.equal("15: asking is no change", 4, x.undo());
    }

    private static void dropping() {
        PieceTransfer x = Check.loaded(TEXT);
        x.fetch(1, 0);
        x.fetch(0, 1);
        int events = x.count(9);
        Check.equal("16: origin 1", 1, x.drop(1));
        Check.equal("16: origin 0", 0, x.drop(4));
        Check.equal("16: no blame", 0, x.source(1, 3));
        Check.equal("16: no event", events, x.count(9));
        Check.equal("16: not by a search", 0, x.count(10));
        Check.equal("16: neither good", 0, x.count(5));
        Check.equal("16: nor suspect", 0, x.count(6));
        Check.equal("16: missing", 4, x.count(7));
        Check.noState("16: is missing", () -> x.drop(1));
        Check.noIndex("16: part 8", () -> x.drop(8));
        Check.noIndex("16: part -1", () -> x.drop(-1));
        x.drop(0);
        x.drop(2);
        Check.equal("16: all of it", 3, x.piece(0, 4));
    }

    private static void running() {
        PieceTransfer x = Check.loaded(TEXT);
        Check.noArgument("17: 0", () -> x.run(0));
        Check.noArgument("17: 301", () -> x.run(301));
        Check.noArgument("17: -1", () -> x.run(-1));
        Check.equal("17: one tick", 1, x.run(1));
        Check.equal("17: the lowest and the highest", "0:0:0 0:7:1", Check.latest(x, 2));
        // transfer 2 breaks the byte at the offset 1, but part 7 has one byte only
        Check.equal("17: not broken", 0, x.wrongBytes());
        Check.equal("17: the rest", 3, x.run(300));
        Check.equal("17: events", "0:1:0 0:6:1 1:2:0 0:2:0 1:0:0 0:5:1 0:3:0 0:4:1 1:1:0 5:1:4",
                Check.latest(x, 10));
        Check.equal("17: finished", 3, x.count(5));
        Check.equal("17: no tick", 0, x.run(5));
        Check.equal("17: a change all the same", 3, x.undo());
        Check.equal("17: undone", 2, x.undo());
        Check.equal("17: two transfers", 2, x.count(3));
        PieceTransfer y = Check.loaded("file 12 0 pieces 4 4;");
        Check.equal("17: an odd number of parts", 2, y.run(2));
        Check.equal("17: the last one from source 0", "0:0:0 1:0:0 0:2:1 1:2:0 0:1:0 1:1:0",
                Check.latest(y, 6));
    }

    private static void runningAlone() {
        PieceTransfer x = Check.loaded("file 12 0 pieces 4 2; flaw 0 1;");
        x.connect(0, false);
        Check.equal("17: source 1 alone", 6, x.run(300));
        Check.equal("17: from the highest", "0:1:1 0:0:1 2:0:0", Check.latest(x, 3));
        Check.equal("17: not searched", 2, x.piece(0, 6));
        Check.equal("17: nothing to do", 0, x.run(9));
        x.connect(0, true);
        // one tick searches only, the next one brings the part again
        Check.equal("17: a tick that only searches", 1, x.run(1));
        Check.equal("17: dropped", "3:0:1", Check.latest(x, 1));
        Check.equal("17: no transfer", 6, x.count(3));
        Check.equal("17: and again", 1, x.run(9));
        Check.equal("17: good", 3, x.count(5));
        PieceTransfer y = Check.loaded("file 12 0 pieces 4 2;");
        y.connect(1, false);
        Check.equal("17: source 0 alone", 6, y.run(6));
        Check.equal("17: to the highest", "0:4:0 0:5:0 1:2:0", Check.latest(y, 3));
        PieceTransfer z = Check.loaded("file 12 0 pieces 4 2;");
        z.connect(0, false);
        z.connect(1, false);
        Check.equal("17: none", 0, z.run(6));
        Check.equal("17: none is a change", 3, z.undo());
    }

    private static void runningWithSearches() {
        PieceTransfer x = Check.loaded("file 12 0 pieces 4 4; flaw 0 1; flaw 4 1; flaw 8 1;"
                + "blame 2;");
        x.fetch(1, 2);
        x.fetch(1, 0);
        Check.equal("17: a tick", 1, x.run(1));
        // part 1 comes from source 0; then pieces 0 and 2 are searched in this order
        Check.equal("17: searches ascend", "0:1:0 1:1:0 3:0:1 3:2:1 6:1:2", Check.latest(x, 5));
        Check.equal("17: banned", 0, x.source(1, 0));
        Check.equal("17: two more", 2, x.run(300));
        Check.equal("17: by source 0", "0:0:0 1:0:0 0:2:0 1:2:0", Check.latest(x, 4));
        PieceTransfer y = Check.loaded("file 8 0 pieces 4 4; break 1 0 1; cut 0 1;");
        Check.equal("17: the cut comes before the searches", 1, y.run(300));
        Check.equal("17: so none is made", "0:0:0 2:0:0 5:0:1 0:1:1 1:1:0", Check.latest(y, 5));
        PieceTransfer z = Check.loaded(ENDLESS);
        Check.equal("17: endless", 300, z.run(300));
        Check.equal("17: transfers", 600, z.count(3));
        Check.equal("17: queries", 600, z.count(4));
        Check.equal("17: dropped", 600, z.count(10));
        Check.equal("17: events", 1200, z.count(9));
    }

    private static void ticksLeft() {
        PieceTransfer x = Check.loaded(TEXT);
        Check.equal("18: at first", 4, x.ticksLeft());
        Check.equal("18: no event", 0, x.count(9));
        Check.equal("18: no transfer", 0, x.count(3));
        Check.equal("18: no change", 0, x.undo());
        Check.noState("18: only the load could be undone", () -> x.undo());
        PieceTransfer y = Check.loaded("file 12 0 pieces 4 2; flaw 0 1;");
        y.connect(1, false);
        Check.equal("18: one source", 6, y.ticksLeft());
        y.connect(0, false);
        Check.equal("18: none", -1, y.ticksLeft());
        y.connect(1, true);
        Check.equal("18: suspect at the end", -1, y.ticksLeft());
        y.connect(0, true);
        y.run(300);
        Check.equal("18: finished", 0, y.ticksLeft());
        Check.equal("18: endless", -1, Check.loaded(ENDLESS).ticksLeft());
        // source 1 spoils as many ticks as it sends parts; source 0 needs two more
        Check.equal("18: 402", 402, Check.loaded(ENDLESS + "cut 1 400;").ticksLeft());
        Check.equal("18: 600", 600, Check.loaded(ENDLESS + "cut 1 598;").ticksLeft());
        Check.equal("18: 601", -1, Check.loaded(ENDLESS + "cut 1 599;").ticksLeft());
        PieceTransfer z = Check.loaded(ENDLESS + "cut 1 400;");
        z.run(300);
        Check.equal("18: 102", 102, z.ticksLeft());
        Check.equal("18: again", 102, z.ticksLeft());
        Check.load(z, "file 12 0 pieces 4 2;");
        Check.equal("18: of another text", 3, z.ticksLeft());
        z.undo();
        Check.equal("18: of the first one", 102, z.ticksLeft());
        Check.equal("18: run", 102, z.run(300));
    }
}
