import java.util.Arrays;

/** Promises 19 to 26. */
public final class PartialFilesTest {
    private static final String TEXT = "file 20 3 pieces 8 3; flaw 5 10; flaw 17 1; blame 1;";

    public static void main(String[] args) {
        keeping();
        keepingLimits();
        resuming();
        resumingSpoilt();
        findingNames();
        findingLengths();
        renaming();
        spoiling();
        discarding();
        telling();
        Check.end();
    }

    /** Partial files with the names 1 to 4 and the lengths 3, 8, 20 and 8. */
    private static PieceTransfer four() {
        PieceTransfer x = Check.loaded(TEXT);
        x.fetch(0, 0);
        x.drop(1);
        x.keep(1);
        x.fetch(0, 0);
        x.keep(2);
        x.run(300);
        x.keep(3);
        x.fetch(0, 0);
        x.keep(4);
        return x;
    }

    private static void keeping() {
        PieceTransfer x = Check.loaded(TEXT);
        x.fetch(0, 0);
        x.fetch(0, 2);
        x.fetch(0, 1);
        x.drop(4);
        Check.equal("19: before the first missing part", 11, x.keep(42));
        Check.equal("19: event", "7:42:11", Check.latest(x, 1));
        Check.equal("19: all are missing", 8, x.count(7));
        Check.equal("19: also behind", -1, x.part(7, 3));
        Check.equal("19: none good", 0, x.count(5));
        Check.equal("19: one kept", 1, x.count(8));
        Check.equal("19: sent stays", 8, x.source(0, 2));
        Check.equal("19: name", 42, x.partial(0, 0));
        Check.equal("19: length", 11, x.partial(0, 1));
        x.run(300);
        Check.equal("19: all of them", 20, x.keep(0));
        Check.equal("19: the next number", 0, x.partial(1, 0));
        PieceTransfer y = Check.loaded(TEXT);
        y.fetch(1, 0);
        Check.equal("19: suspect ones too", 8, y.keep(999));
        Check.equal("19: no suspect any more", 0, y.count(6));
        Check.equal("19: neither", 0, y.piece(0, 6));
        Check.equal("19: nothing there", "...", Check.map(y));
        Check.equal("19: nothing was judged", "2:0:0 7:999:8", Check.latest(y, 2));
        Check.equal("19: its bytes", 1, y.partial(0, 3));
        y.fetch(0, 0);
        y.drop(0);
        Check.equal("19: none is suspect twice", 0, y.count(6));
    }

    private static void keepingLimits() {
        PieceTransfer x = Check.loaded(TEXT);
        Check.noState("19: the first part is missing", () -> x.keep(1));
        Check.noArgument("19: the name comes first", () -> x.keep(1000));
        Check.noArgument("19: -1", () -> x.keep(-1));
        x.fetch(0, 2);
        Check.noState("19: the first part is still missing", () -> x.keep(1));
        PieceTransfer y = four();
        Check.equal("19: four", 4, y.count(8));
        y.fetch(0, 0);
        Check.noState("19: a fifth", () -> y.keep(5));
        Check.equal("19: nothing changed", 0, y.piece(0, 4));
        y.discard(0);
        Check.equal("19: a place is free", 8, y.keep(5));
    }

    private static void resuming() {
        PieceTransfer x = four();
        Check.noIndex("20: 4", () -> x.resume(4));
        Check.noIndex("20: -1", () -> x.resume(-1));
        Check.equal("20: one good piece", 1, x.resume(1));
        Check.equal("20: events", "8:2:3 1:0:0", Check.latest(x, 2));
        Check.equal("20: origin", 2, x.part(2, 3));
        Check.equal("20: bytes", 20, x.got(7));
        Check.equal("20: no more", -1, x.part(3, 3));
        Check.equal("20: it is gone", 3, x.count(8));
        Check.equal("20: lower numbers", 3, x.partial(1, 0));
        Check.noState("20: some part is present", () -> x.resume(0));
        Check.noIndex("20: the number comes first", () -> x.resume(3));
        x.drop(0);
        x.drop(1);
        Check.noState("20: one part is present", () -> x.resume(0));
        x.drop(2);
        Check.equal("20: no whole piece", 0, x.resume(0));
        Check.equal("20: no judgement", "8:1:1", Check.latest(x, 1));
        Check.equal("20: one part", 2, x.piece(0, 4));
        Check.equal("20: no transfers", 0, x.source(1, 4));
        x.drop(0);
        Check.equal("20: all pieces", 3, x.resume(0));
        Check.equal("20: judged in order", "8:3:8 1:0:0 1:1:0 1:2:0", Check.latest(x, 4));
        Check.equal("20: finished", 0, x.ticksLeft());
    }

    private static void resumingSpoilt() {
        PieceTransfer x = four();
        x.spoil(2, 9, 1);
        int transfers = x.count(3);
        Check.equal("20: two are good", 2, x.resume(2));
        Check.equal("20: judged", "8:3:8 1:0:0 2:1:0 1:2:0", Check.latest(x, 4));
        Check.equal("20: no transfers", transfers, x.count(3));
        Check.equal("20: the spoilt byte", 102, x.got(9));
        x.search(1);
        Check.equal("20: origin 2 is dropped", "3:3:2", Check.latest(x, 1));
    }

    private static void findingNames() {
        PieceTransfer x = four();
        Check.equal("21: first", 0, x.named(1));
        Check.equal("21: last", 3, x.named(4));
        Check.noElement("21: 5", () -> x.named(5));
        Check.noElement("21: any number", () -> x.named(Integer.MIN_VALUE));
        Check.noElement("21: -1", () -> x.named(-1));
        x.rename(0, 4);
        Check.equal("21: renamed, but not kept last", 3, x.named(4));
        Check.noElement("21: no more", () -> x.named(1));
        x.discard(3);
        Check.equal("21: the other one", 0, x.named(4));
        Check.noElement("21: nothing kept", () -> new PieceTransfer().named(0));
    }

    private static void findingLengths() {
        PieceTransfer x = four();
        Check.equal("22: 3", 0, x.sized(3));
        Check.equal("22: the lowest", 1, x.sized(8));
        Check.equal("22: 20", 2, x.sized(20));
        Check.noElement("22: 9", () -> x.sized(9));
        Check.noElement("22: 0", () -> x.sized(0));
        Check.noElement("22: any number", () -> x.sized(Integer.MAX_VALUE));
        x.discard(1);
        Check.equal("22: the next one", 2, x.sized(8));
    }

    private static void renaming() {
        PieceTransfer x = four();
        int events = x.count(9);
        Check.equal("23: before", 2, x.rename(1, 999));
        Check.equal("23: then", 999, x.partial(1, 0));
        Check.equal("23: to the same", 999, x.rename(1, 999));
        Check.equal("23: to 0", 999, x.rename(1, 0));
        Check.equal("23: no event", events, x.count(9));
        Check.equal("23: length stays", 8, x.partial(1, 1));
        Check.noArgument("23: 1000", () -> x.rename(1, 1000));
        Check.noArgument("23: -1", () -> x.rename(1, -1));
        Check.noIndex("23: 4 first", () -> x.rename(4, 1000));
        Check.noIndex("23: -1", () -> x.rename(-1, 1));
        x.undo();
        x.undo();
        x.undo();
        Check.equal("23: undone", 2, x.partial(1, 0));
    }

    private static void spoiling() {
        PieceTransfer x = four();
        Check.equal("24: byte", 20 + 1, x.spoil(1, 7, 1));
        Check.equal("24: modulo 256", (232 + 255) % 256, x.spoil(1, 6, 255));
        Check.equal("24: again", (232 + 255 + 30) % 256, x.spoil(1, 6, 30));
        Check.equal("24: two bytes differ", 2, x.partial(1, 3));
        Check.equal("24: not another one", 0, x.partial(3, 3));
        Check.noIndex("24: place 8", () -> x.spoil(1, 8, 1));
        Check.noIndex("24: place -1", () -> x.spoil(1, -1, 0));
        Check.noIndex("24: 4 first", () -> x.spoil(4, 0, 0));
        Check.noIndex("24: -1", () -> x.spoil(-1, 0, 1));
        Check.noArgument("24: 0", () -> x.spoil(1, 0, 0));
        Check.noArgument("24: 256", () -> x.spoil(1, 0, 256));
        x.undo();
        Check.equal("24: undone", 2, x.partial(1, 3));
        x.undo();
        Check.equal("24: undone too", 1, x.partial(1, 3));
        x.undo();
        Check.equal("24: as before", 0, x.partial(1, 3));
    }

    private static void discarding() {
        PieceTransfer x = four();
        int events = x.count(9);
        Check.noIndex("25: 4", () -> x.discard(4));
        Check.noIndex("25: -1", () -> x.discard(-1));
        Check.equal("25: left", 3, x.discard(1));
        Check.equal("25: numbers are lower", 3, x.partial(1, 0));
        Check.equal("25: before it", 1, x.partial(0, 0));
        Check.noIndex("25: 3", () -> x.partial(3, 0));
        Check.equal("25: no event", events, x.count(9));
        x.undo();
        Check.equal("25: undone", 2, x.partial(1, 0));
        for (int left = 3; left >= 0; left--) {
            Check.equal("25: left", left, x.discard(0));
        }
        Check.noIndex("25: none", () -> x.discard(0));
    }

    private static void telling() {
        PieceTransfer x = four();
        int[][] want = {{1, 3, 3 + 2 * 40 + 3 * 77, 0, 0}, {2, 8, 4486, 0, 1},
            {3, 20, 0, 0, 3}, {4, 8, 4486, 0, 1}};
        want[2][2] = x.checksum(0, 0, 20);
        for (int partial = 0; partial < 4; partial++) {
            int[] got = new int[5];
            for (int what = 0; what < 5; what++) {
                got[what] = x.partial(partial, what);
            }
            Check.equal("26: " + partial, Arrays.toString(want[partial]), Arrays.toString(got));
        }
        x.spoil(2, 8, 1);
        Check.equal("26: up to the first bad one", 1, x.partial(2, 4));
        Check.equal("26: one wrong byte", 1, x.partial(2, 3));
        x.spoil(2, 0, 1);
        Check.equal("26: none at first", 0, x.partial(2, 4));
        Check.noIndex("26: 4 first", () -> x.partial(4, 5));
        Check.noIndex("26: -1", () -> x.partial(-1, 0));
        Check.noArgument("26: 5", () -> x.partial(0, 5));
        Check.noArgument("26: -1", () -> x.partial(0, -1));
        x.resume(2);
        Check.equal("26: numbers are lower", 4, x.partial(2, 0));
        // byte 3 of source 0 is 0, so that its lack is not seen in the checksum
        PieceTransfer y = Check.loaded("file 4 139 pieces 4 3;");
        y.run(1);
        y.drop(1);
        y.keep(1);
        Check.equal("26: byte 3", 0, y.sent(0, 3));
        Check.equal("26: the checksums are the same", y.piece(0, 5), y.partial(0, 2));
        Check.equal("26: the piece is not all in it", 0, y.partial(0, 4));
    }
}
