/** Promises 27 to 34. */
public final class TellingTest {
    private static final String TEXT =
            "file 20 3 pieces 8 3; flaw 5 10; break 2 1 7; cut 1 4; blame 2;";

    public static void main(String[] args) {
        wrongBytes();
        differingParts();
        progress();
        events();
        fullAudit();
        countingEvents();
        maps();
        written();
        undoing();
        undoingAll();
        undoingEachChange();
        undoLeavesTexts();
        undoingEverything();
        Check.end();
    }

    private static void wrongBytes() {
        PieceTransfer x = Check.loaded(TEXT);
        Check.equal("27: nothing has arrived", 0, x.wrongBytes());
        x.fetch(1, 0);
        Check.equal("27: a flaw and a break", 2, x.wrongBytes());
        x.fetch(0, 1);
        Check.equal("27: right ones", 2, x.wrongBytes());
        x.drop(1);
        Check.equal("27: missing ones do not count", 0, x.wrongBytes());
        PieceTransfer y = Check.loaded("file 4 0 pieces 4 2; flaw 0 2; flaw 1 255;");
        y.fetch(1, 0);
        Check.equal("27: in a good piece too", 2, y.wrongBytes());
    }

    private static void differingParts() {
        Check.equal("28: one", 1, Check.loaded(TEXT).differingParts());
        Check.equal("28: none", 0, new PieceTransfer().differingParts());
        Check.equal("28: the first one", 1, Check.loaded(
                "file 20 3 pieces 8 3; flaw 0 1;").differingParts());
        Check.equal("28: two flaws of one part", 2, Check.loaded("file 20 3 pieces 8 3;"
                + "flaw 3 1; flaw 5 1; flaw 19 1;").differingParts());
        Check.equal("28: flaws that make up for each other", 0, Check.loaded(
                "file 20 3 pieces 8 3; flaw 3 1; flaw 3 255;").differingParts());
        Check.equal("28: the same checksum", 1, Check.loaded(
                "file 20 3 pieces 8 3; flaw 3 2; flaw 4 255;").differingParts());
        PieceTransfer x = Check.loaded(TEXT);
        x.run(300);
        Check.equal("28: what has arrived does not matter", 1, x.differingParts());
    }

    private static void progress() {
        PieceTransfer x = Check.loaded(TEXT);
        Check.equal("29: nothing", 0.0f, x.progress());
        x.fetch(1, 0);
        Check.equal("29: suspect", 0.0f, x.progress());
        x.fetch(0, 1);
        Check.equal("29: 8 of 20", 8.0f / 20.0f, x.progress());
        x.fetch(0, 2);
        Check.equal("29: 12 of 20", 12.0f / 20.0f, x.progress());
        x.search(0);
        x.fetch(0, 0);
        Check.equal("29: all", 1.0f, x.progress());
        PieceTransfer y = Check.loaded("file 7 0 pieces 4 4;");
        y.fetch(0, 1);
        Check.equal("29: 3 of 7", 3.0f / 7.0f, y.progress());
        PieceTransfer z = new PieceTransfer();
        z.run(1);
        Check.equal("29: the only byte", 1.0f, z.progress());
    }

    private static void events() {
        PieceTransfer x = Check.loaded(TEXT);
        Check.noIndex("30: none", () -> x.event(0, 0));
        x.fetch(0, 2);
        Check.equal("30: kind", 1, x.event(0, 0));
        Check.equal("30: first number", 2, x.event(0, 1));
        Check.equal("30: second number", 0, x.event(0, 2));
        Check.equal("30: before", 7, x.event(1, 1));
        Check.equal("30: the first one", 6, x.event(2, 1));
        Check.noIndex("30: 3", () -> x.event(3, 0));
        Check.noIndex("30: -1 first", () -> x.event(-1, 3));
        Check.noArgument("30: 3", () -> x.event(0, 3));
        Check.noArgument("30: -1", () -> x.event(0, -1));
    }

    private static void fullAudit() {
        PieceTransfer x = Check.loaded("file 240 0 pieces 48 1;");
        x.connect(1, false);
        Check.equal("30: 39 events", 39, x.run(39));
        Check.equal("30: the first one", 0, x.event(38, 1));
        Check.noIndex("30: 39", () -> x.event(39, 0));
        x.run(1);
        Check.equal("30: 40 events", 0, x.event(39, 1));
        x.run(1);
        Check.equal("30: the first one is lost", 1, x.event(39, 1));
        Check.noIndex("30: 40", () -> x.event(40, 0));
        Check.equal("30: all that there were", 41, x.count(9));
        x.run(300);
        Check.equal("30: the last one", 4, x.event(0, 1));
        Check.equal("30: 245 events", 245, x.count(9));
        Check.equal("30: the oldest one", 201, x.event(39, 1));
        Check.equal("31: arrivals", 39, x.events(0));
        Check.equal("31: judgements", 1, x.events(1));
    }

    private static void countingEvents() {
        PieceTransfer x = Check.loaded("file 12 0 pieces 4 2; flaw 0 1; flaw 10 2; flaw 11 255;"
                + "cut 1 4; blame 1;");
        x.fetch(1, 0);
        x.fetch(1, 2);
        x.connect(1, true);
        x.search(0);
        x.search(2);
        x.fetch(0, 0);
        x.keep(1);
        x.resume(0);
        int[] counts = {5, 2, 2, 1, 1, 1, 1, 1, 1};
        for (int kind = 0; kind <= 8; kind++) {
            Check.equal("31: kind " + kind, counts[kind], x.events(kind));
        }
        Check.equal("31: in all", 15, x.count(9));
        Check.noArgument("31: 9", () -> x.events(9));
        Check.noArgument("31: -1", () -> x.events(-1));
        Check.equal("31: none", 0, new PieceTransfer().events(0));
    }

    private static void maps() {
        PieceTransfer x = Check.loaded(TEXT);
        Check.equal("32: nothing", "...", Check.map(x));
        x.fetch(1, 0);
        x.fetch(0, 1);
        x.fetch(0, 2);
        Check.equal("32: suspect and good", "SGG", Check.map(x));
        x.drop(3);
        x.drop(6);
        Check.equal("32: one missing", "S11", Check.map(x));
        x.drop(7);
        x.drop(5);
        Check.equal("32: all missing of one", "S2.", Check.map(x));
        PieceTransfer y = Check.loaded("file 48 0 pieces 48 1;");
        y.connect(1, false);
        y.run(1);
        Check.equal("32: 47 missing", "7", Check.map(y));
        y.run(7);
        Check.equal("32: 40 missing", "0", Check.map(y));
        PieceTransfer z = Check.loaded("file 240 0 pieces 4 1;");
        Check.equal("32: 60 pieces", 60, z.writeMap());
        Check.equal("32: the last one", '.', z.writtenByte(59));
    }

    private static void written() {
        PieceTransfer x = Check.loaded(TEXT);
        Check.noIndex("33: nothing at first", () -> x.writtenByte(0));
        x.writeMap();
        Check.equal("33: point", 46, x.writtenByte(2));
        Check.noIndex("33: 3", () -> x.writtenByte(3));
        Check.noIndex("33: -1", () -> x.writtenByte(-1));
        x.fetch(0, 0);
        Check.equal("33: as it was written", 46, x.writtenByte(0));
        Check.load(x, "file 1 0 pieces 4 4;");
        Check.equal("33: load leaves it", 46, x.writtenByte(2));
        Check.equal("32: shorter", 1, x.writeMap());
        Check.noIndex("33: in place of what was before", () -> x.writtenByte(1));
    }

    private static void undoing() {
        PieceTransfer x = Check.loaded(TEXT);
        x.fetch(1, 0);
        x.search(0);
        Check.equal("34: two are left", 2, x.undo());
        Check.equal("34: suspect again", 2, x.piece(0, 6));
        Check.equal("34: no query", 0, x.count(4));
        Check.equal("34: events", 4, x.count(9));
        Check.equal("34: latest event", "2:0:0", Check.latest(x, 1));
        Check.equal("34: bytes", 203, x.got(5));
        Check.equal("34: again", 4, x.search(0));
        Check.equal("34: the same two", 2, x.undo());
        Check.equal("34: one is left", 1, x.undo());
        Check.equal("34: no transfer", 0, x.count(3));
        x.connect(0, false);
        Check.equal("34: in place of what was undone", 1, x.undo());
        Check.equal("34: connected", 1, x.source(0, 0));
        Check.equal("34: the load", 0, x.undo());
        Check.equal("34: as new", 1, x.count(0));
        Check.noState("34: nothing", () -> x.undo());
    }

    private static void undoingAll() {
        PieceTransfer x = Check.loaded("file 240 0 pieces 48 1;");
        x.connect(1, false);
        for (int k = 0; k < 20; k++) {
            x.run(1);
        }
        for (int left = 7; left >= 0; left--) {
            Check.equal("34: left", left, x.undo());
            Check.equal("34: transfers", 12 + left, x.count(3));
        }
        Check.noState("34: older ones cannot be undone", () -> x.undo());
        Check.equal("34: nothing changed", 12, x.count(3));
        x.run(1);
        Check.equal("34: a new one can", 0, x.undo());
        for (int k = 0; k < 10; k++) {
            x.run(1);
        }
        for (int k = 0; k < 3; k++) {
            x.undo();
        }
        x.run(2);
        Check.equal("34: five and one", 5, x.undo());
        Check.equal("34: before it", 19, x.count(3));
        Check.equal("34: four", 4, x.undo());
        Check.equal("34: before that", 18, x.count(3));
    }

    private static void undoingEachChange() {
        PieceTransfer x = Check.loaded("file 20 3 pieces 8 3;");
        x.fetch(0, 0);
        x.keep(1);
        x.fetch(0, 0);
        x.keep(2);
        x.rename(0, 3);
        x.spoil(0, 0, 9);
        x.discard(1);
        x.resume(0);
        Check.equal("34: resume", 7, x.undo());
        Check.equal("34: one kept", 1, x.count(8));
        Check.equal("34: nothing present", 8, x.count(7));
        Check.equal("34: discard", 6, x.undo());
        Check.equal("34: two kept", 2, x.count(8));
        Check.equal("34: in their order", 2, x.partial(1, 0));
        Check.equal("34: spoil", 5, x.undo());
        Check.equal("34: not spoilt", 0, x.partial(0, 3));
        Check.equal("34: rename", 4, x.undo());
        Check.equal("34: name", 1, x.partial(0, 0));
        Check.equal("34: keep", 3, x.undo());
        Check.equal("34: one good", 1, x.count(5));
        Check.equal("34: one kept, not two", 1, x.count(8));
        x.drop(0);
        Check.equal("34: drop", 3, x.undo());
        Check.equal("34: good again", 1, x.piece(0, 6));
        Check.equal("34: fetch", 2, x.undo());
        PieceTransfer b = Check.loaded("file 4 0 pieces 4 4; flaw 0 1; blame 1;");
        b.fetch(1, 0);
        b.search(0);
        b.undo();
        Check.equal("34: not banned", 0, b.source(1, 1));
        Check.equal("34: no blame", 0, b.source(1, 3));
        Check.isTrue("34: connected", b.connect(1, true));
    }

    /** Makes the change of this number; all of them together succeed in any order of rounds. */
    private static void change(PieceTransfer x, int number) {
        switch (number) {
            case 0:
                Check.load(x, TEXT + "blame 1;");
                break;
            case 1:
                x.fetch(1, 0);
                break;
            case 2:
                x.search(0);
                break;
            case 3:
                x.fetch(0, 1);
                break;
            case 4:
                x.fetch(0, 0);
                break;
            case 5:
                x.keep(4);
                break;
            case 6:
                x.spoil(0, 1, 1);
                break;
            case 7:
                x.rename(0, 2);
                break;
            case 8:
                x.resume(0);
                break;
            case 9:
                x.drop(1);
                break;
            case 10:
                x.run(3);
                break;
            case 11:
                x.connect(0, false);
                break;
            case 12:
                x.keep(3);
                break;
            case 13:
                x.discard(0);
                break;
            default:
                Check.load(x, "file 9 1 pieces 4 2; flaw 3 2; flaw 8 1;");
                x.run(2);
        }
    }

    /** A new object behind the first of the changes. */
    private static PieceTransfer changed(int changes) {
        PieceTransfer x = new PieceTransfer();
        for (int number = 0; number < changes; number++) {
            change(x, number);
        }
        return x;
    }

    private static void undoingEverything() {
        for (int number = 0; number < 15; number++) {
            PieceTransfer asked = changed(number);
            String before = Check.state(asked);
            Check.equal("34: asking again", before, Check.state(asked));
            PieceTransfer x = changed(number);
            change(x, number);
            x.undo();
            if (number == 14) {
                x.undo();
            }
            Check.equal("34: undone " + number, before, Check.state(x));
            change(x, number);
            String behind = Check.state(changed(number + 1));
            Check.equal("34: done again " + number, behind, Check.state(x));
            Check.isTrue("34: change " + number, !before.equals(behind));
        }
        for (int undone = 1; undone <= 8; undone++) {
            PieceTransfer x = changed(14);
            for (int k = 1; k <= undone; k++) {
                Check.equal("34: left", 8 - k, x.undo());
            }
            Check.equal("34: state " + undone, Check.state(changed(14 - undone)), Check.state(x));
        }
    }

    private static void undoLeavesTexts() {
        PieceTransfer x = Check.loaded("file 1 0 pieces 4 4;");
        x.fetch(0, 0);
        x.writeMap();
        x.append(0, 0, 0, 0, 0);
        x.undo();
        Check.equal("34: the written text stays", 'G', x.writtenByte(0));
        Check.equal("34: the buffer stays", 40, x.append(0, 0, 0, 0, 0));
        x.load(40);
        Check.equal("34: no change", 0, x.undo());
        Check.equal("34: the position stays", 0, x.errorPosition());
    }
}
