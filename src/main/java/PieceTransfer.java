import java.util.ArrayList;
import java.util.Arrays;
import java.util.NoSuchElementException;

/**
 * A file that is transferred in pieces and parts of pieces from two sources at once, with broken
 * bytes, cut connections, searches for wrong parts, kept partial files and an audit.
 */
public final class PieceTransfer {
    /** There is none. */
    public static final int NONE = -1;
    /** Error code of load: the text does not follow the grammar. */
    public static final int SYNTAX_ERROR = -2;
    /** Error code of load: a number that cannot be. */
    public static final int VALUE_ERROR = -3;
    /** Error code of load: there is too much of something. */
    public static final int TOO_MANY = -4;

    private static final int SOURCES = 2;
    private static final int ORIGINAL = 0;
    private static final int FLAWED = 1;
    private static final int KEPT = 2;

    private static final int MOST_BYTES = 240;
    private static final int MOST_PARTS = 240;
    private static final int MOST_PIECES = 60;
    private static final int MOST_FLAWS = 12;
    private static final int MOST_BREAKS = 12;
    private static final int MOST_CUTS = 8;
    private static final int MOST_PARTIALS = 4;
    private static final int MOST_EVENTS = 40;
    private static final int MOST_CHANGES = 8;
    private static final int MOST_TICKS = 300;
    private static final int MOST_TICKS_LEFT = 600;
    private static final int HIGHEST_NAME = 999;
    private static final int HIGHEST_DELTA = 255;
    private static final int TEXT_ROOM = 400;
    private static final int APPENDED_BYTES = 20;
    /** A piece has at most 48 parts, and six halvings come down to one. */
    private static final int DEEPEST_SEARCH = 8;

    private static final int INCOMPLETE = 0;
    private static final int GOOD = 1;
    private static final int SUSPECT = 2;

    private static final int ARRIVED = 0;
    private static final int JUDGED_GOOD = 1;
    private static final int JUDGED_SUSPECT = 2;
    private static final int DROPPED_AS_WRONG = 3;
    private static final int DROPPED_AS_A_WHOLE = 4;
    private static final int WAS_CUT = 5;
    private static final int WAS_BANNED = 6;
    private static final int WAS_KEPT = 7;
    private static final int WAS_RESUMED = 8;
    private static final int KINDS = 9;

    private final int[] text = new int[TEXT_ROOM];
    private int textLength = 0;
    private int errorAt = NONE;
    private final int[] written = new int[MOST_PIECES];
    private int writtenLength = 0;
    private Download now;
    /** A ring of earlier states; its rows are made when first needed and then used again. */
    private final Download[] past = new Download[MOST_CHANGES];
    private int nextPast = 0;
    private int undoable = 0;
    private Download forecast = null;

    /** Creates a transfer as by the text "file 1 0 pieces 4 4;", with an empty text buffer. */
    public PieceTransfer() {
        Plan plan = new Plan(1, 0, 4, 4);
        now = new Download(plan);
        now.begin(plan);
    }

    // ---- setup

    /** Appends the four bytes of each argument to the text buffer; returns its new length. */
    public int append(int a, int b, int c, int d, int e) throws IllegalStateException {
        needState(textLength + APPENDED_BYTES <= TEXT_ROOM);
        appendBytes(a);
        appendBytes(b);
        appendBytes(c);
        appendBytes(d);
        appendBytes(e);
        return textLength;
    }

    private void appendBytes(int four) {
        for (int shift = 24; shift >= 0; shift -= 8) {
            put(text, textLength, (four >>> shift) & 255);
            textLength++;
        }
    }

    /** Reads the first bytes of the buffer as a transfer; returns its parts or the error code. */
    public int load(int length) throws IllegalArgumentException {
        needArgument(length >= 0 && length <= textLength);
        Reader reader = new Reader(text, length);
        Plan plan = reader.readPlan();
        textLength = 0;
        errorAt = reader.errorAt;
        if (plan == null) {
            return reader.error;
        }
        remember();
        now.begin(plan);
        return plan.parts;
    }

    /** Returns the position of the error that the latest load found, or NONE. */
    public int errorPosition() {
        return errorAt;
    }

    /** Returns a number of the whole. */
    public int count(int what) throws IllegalArgumentException {
        switch (what) {
            case 0: return now.plan.length;
            case 1: return now.plan.pieces;
            case 2: return now.plan.parts;
            case 3: return now.transfers;
            case 4: return now.queries;
            case 5: return now.goodPieces;
            case 6: return now.suspectPieces;
            case 7: return now.missingParts;
            case 8: return now.partials.size();
            case 9: return now.audit.total;
            case 10: return now.dropped;
            case 11: return now.plan.blameLimit;
            default: throw new IllegalArgumentException("what is not 0 to 11");
        }
    }

    /** Returns a number of a source. */
    public int source(int source, int what)
            throws IndexOutOfBoundsException, IllegalArgumentException {
        needIndex(source, SOURCES);
        switch (what) {
            case 0: return now.isConnected(source) ? 1 : 0;
            case 1: return source == FLAWED && now.banned ? 1 : 0;
            case 2: return at(now.sentParts, source);
            case 3: return at(now.blames, source);
            case 4: return now.partsFrom(source);
            default: throw new IllegalArgumentException("what is not 0 to 4");
        }
    }

    /** Returns a byte that a source has. */
    public int sent(int source, int place) throws IndexOutOfBoundsException {
        needIndex(source, SOURCES);
        needIndex(place, now.plan.length);
        return at(now.plan.bytesOf(source), place);
    }

    /** Returns a byte that has arrived, or NONE if its part is missing. */
    public int got(int place) throws IndexOutOfBoundsException {
        needIndex(place, now.plan.length);
        return now.isMissing(at(now.plan.partOfPlace, place)) ? NONE : at(now.bytes, place);
    }

    /** Returns a number of a piece. */
    public int piece(int piece, int what)
            throws IndexOutOfBoundsException, IllegalArgumentException {
        Plan plan = now.plan;
        needIndex(piece, plan.pieces);
        switch (what) {
            case 0: return plan.pieceStart(piece);
            case 1: return plan.pieceLength(piece);
            case 2: return plan.firstPart(piece);
            case 3: return plan.partsOf(piece);
            case 4: return at(now.missing, piece);
            case 5: return at(plan.manifest, piece);
            case 6: return at(now.verdicts, piece);
            default: throw new IllegalArgumentException("what is not 0 to 6");
        }
    }

    /** Returns a number of a part. */
    public int part(int part, int what)
            throws IndexOutOfBoundsException, IllegalArgumentException {
        Plan plan = now.plan;
        needIndex(part, plan.parts);
        switch (what) {
            case 0: return plan.partStart(part);
            case 1: return plan.partLength(part);
            case 2: return at(plan.pieceOfPart, part);
            case 3: return at(now.origins, part);
            case 4: return now.wrongBytesOf(part);
            default: throw new IllegalArgumentException("what is not 0 to 4");
        }
    }

    /** Returns the checksum of bytes that a source has. */
    public int checksum(int source, int from, int length)
            throws IndexOutOfBoundsException, IllegalArgumentException {
        needIndex(source, SOURCES);
        needIndex(from, now.plan.length);
        needArgument(length >= 1 && length <= now.plan.length - from);
        return sumOf(now.plan.bytesOf(source), from, length);
    }

    // ---- transfers

    /** Connects or disconnects a source; returns whether it was connected before. */
    public boolean connect(int source, boolean on)
            throws IndexOutOfBoundsException, IllegalStateException {
        needIndex(source, SOURCES);
        needState(!(on && source == FLAWED && now.banned));
        remember();
        boolean before = now.isConnected(source);
        put(now.connected, source, on ? 1 : 0);
        return before;
    }

    /** Transfers the missing parts of a piece from a source; returns how many have arrived. */
    public int fetch(int source, int piece)
            throws IndexOutOfBoundsException, IllegalStateException {
        needIndex(source, SOURCES);
        needIndex(piece, now.plan.pieces);
        needState(now.isConnected(source) && at(now.missing, piece) > 0);
        remember();
        return now.receiveMissing(piece, source);
    }

    /** Searches a suspect piece; returns the number of queries. */
    public int search(int piece) throws IndexOutOfBoundsException, IllegalStateException {
        needIndex(piece, now.plan.pieces);
        needState(now.isSuspect(piece) && now.isConnected(ORIGINAL));
        remember();
        return now.searchPiece(piece);
    }

    /** Tells how many queries a search of a piece would need now. */
    public int queriesFor(int piece) throws IndexOutOfBoundsException, NoSuchElementException {
        needIndex(piece, now.plan.pieces);
        needElement(now.isSuspect(piece));
        return now.queriesNeeded(piece);
    }

    /** Makes a present part missing; returns its origin before. */
    public int drop(int part) throws IndexOutOfBoundsException, IllegalStateException {
        needIndex(part, now.plan.parts);
        needState(!now.isMissing(part));
        remember();
        int before = at(now.origins, part);
        now.lose(part);
        return before;
    }

    /** Runs; returns the number of ticks that were made. */
    public int run(int most) throws IllegalArgumentException {
        needArgument(most >= 1 && most <= MOST_TICKS);
        remember();
        return now.makeTicks(most);
    }

    /** Tells how many ticks a run would need until the file is finished, or NONE. */
    public int ticksLeft() {
        if (forecast == null) {
            forecast = new Download(now.plan);
        }
        forecast.copyFrom(now);
        int ticks = forecast.makeTicks(MOST_TICKS_LEFT);
        return forecast.isFinished() ? ticks : NONE;
    }

    // ---- partial files

    /** Keeps what has arrived; returns the length of the partial file. */
    public int keep(int name) throws IllegalArgumentException, IllegalStateException {
        needArgument(isName(name));
        needState(!now.isMissing(0) && now.partials.size() < MOST_PARTIALS);
        remember();
        return now.keepArrived(name);
    }

    /** Resumes a partial file; returns the number of good pieces then. */
    public int resume(int partial) throws IndexOutOfBoundsException, IllegalStateException {
        needIndex(partial, now.partials.size());
        needState(now.missingParts == now.plan.parts);
        remember();
        now.takeUp(now.partials.remove(partial));
        return now.goodPieces;
    }

    /** Returns the number of the partial file with this name that was kept last. */
    public int named(int name) throws NoSuchElementException {
        int found = NONE;
        for (int k = 0; k < now.partials.size(); k++) {
            if (now.partials.get(k).name == name) {
                found = k;
            }
        }
        needElement(found != NONE);
        return found;
    }

    /** Returns the lowest number of a partial file with this length. */
    public int sized(int length) throws NoSuchElementException {
        int found = NONE;
        for (int k = now.partials.size() - 1; k >= 0; k--) {
            if (now.partials.get(k).bytes.length == length) {
                found = k;
            }
        }
        needElement(found != NONE);
        return found;
    }

    /** Gives a partial file another name; returns the name before. */
    public int rename(int partial, int name)
            throws IndexOutOfBoundsException, IllegalArgumentException {
        needIndex(partial, now.partials.size());
        needArgument(isName(name));
        remember();
        Partial before = now.partials.get(partial);
        now.partials.set(partial, new Partial(name, before.bytes));
        return before.name;
    }

    /** Adds a delta to a byte of a partial file; returns the byte then. */
    public int spoil(int partial, int place, int delta)
            throws IndexOutOfBoundsException, IllegalArgumentException {
        needIndex(partial, now.partials.size());
        Partial before = now.partials.get(partial);
        needIndex(place, before.bytes.length);
        needArgument(delta >= 1 && delta <= HIGHEST_DELTA);
        remember();
        int[] bytes = before.bytes.clone();
        addTo(bytes, place, delta);
        now.partials.set(partial, new Partial(before.name, bytes));
        return at(bytes, place);
    }

    /** Throws a partial file away; returns the number of partial files that are left. */
    public int discard(int partial) throws IndexOutOfBoundsException {
        needIndex(partial, now.partials.size());
        remember();
        now.partials.remove(partial);
        return now.partials.size();
    }

    /** Returns a number of a partial file. */
    public int partial(int partial, int what)
            throws IndexOutOfBoundsException, IllegalArgumentException {
        needIndex(partial, now.partials.size());
        Partial kept = now.partials.get(partial);
        switch (what) {
            case 0: return kept.name;
            case 1: return kept.bytes.length;
            case 2: return sumOf(kept.bytes, 0, kept.bytes.length);
            case 3: return differences(kept.bytes, now.plan.original, 0, kept.bytes.length);
            case 4: return now.plan.leadingGoodPieces(kept.bytes);
            default: throw new IllegalArgumentException("what is not 0 to 4");
        }
    }

    // ---- what can be told

    /** Counts the bytes that have arrived and are other ones than those of source 0. */
    public int wrongBytes() {
        int wrong = 0;
        for (int part = 0; part < now.plan.parts; part++) {
            wrong += now.wrongBytesOf(part);
        }
        return wrong;
    }

    /** Counts the parts in which both sources have different bytes. */
    public int differingParts() {
        Plan plan = now.plan;
        int differing = 0;
        for (int part = 0; part < plan.parts; part++) {
            int start = plan.partStart(part);
            if (differences(plan.original, plan.flawed, start, plan.partLength(part)) > 0) {
                differing++;
            }
        }
        return differing;
    }

    /** Returns the part of all bytes that are in good pieces. */
    public float progress() {
        Plan plan = now.plan;
        int bytes = 0;
        for (int piece = 0; piece < plan.pieces; piece++) {
            if (at(now.verdicts, piece) == GOOD) {
                bytes += plan.pieceLength(piece);
            }
        }
        return plan.length > 0 ? (float) bytes / (float) plan.length : 0.0f;
    }

    /** Returns a number of an event of the audit. */
    public int event(int back, int what)
            throws IndexOutOfBoundsException, IllegalArgumentException {
        needIndex(back, now.audit.size());
        int slot = now.audit.slot(back);
        switch (what) {
            case 0: return at(now.audit.kinds, slot);
            case 1: return at(now.audit.firsts, slot);
            case 2: return at(now.audit.seconds, slot);
            default: throw new IllegalArgumentException("what is not 0 to 2");
        }
    }

    /** Counts the events of a kind that the audit has. */
    public int events(int kind) throws IllegalArgumentException {
        needArgument(kind >= 0 && kind < KINDS);
        int found = 0;
        for (int back = 0; back < now.audit.size(); back++) {
            if (at(now.audit.kinds, now.audit.slot(back)) == kind) {
                found++;
            }
        }
        return found;
    }

    /** Writes a map of the pieces; returns the length of the text. */
    public int writeMap() {
        for (int piece = 0; piece < now.plan.pieces; piece++) {
            put(written, piece, signOf(piece));
        }
        writtenLength = now.plan.pieces;
        return writtenLength;
    }

    private char signOf(int piece) {
        int lacking = at(now.missing, piece);
        if (lacking == 0) {
            return now.isSuspect(piece) ? 'S' : 'G';
        }
        return lacking == now.plan.partsOf(piece) ? '.' : (char) ('0' + lacking % 10);
    }

    /** Returns a byte of the text that was written last. */
    public int writtenByte(int index) throws IndexOutOfBoundsException {
        needIndex(index, writtenLength);
        return at(written, index);
    }

    /** Undoes the latest change; returns the number of changes that can still be undone. */
    public int undo() throws IllegalStateException {
        int latest = (nextPast + MOST_CHANGES - 1) % MOST_CHANGES;
        Download before = pastAt(latest);
        if (undoable <= 0 || before == null) {
            throw new IllegalStateException("there is no change to undo");
        }
        putPast(latest, now);
        now = before;
        nextPast = latest;
        undoable--;
        return undoable;
    }

    /** Puts the state aside, so that the change that comes next can be undone. */
    private void remember() {
        Download row = pastAt(nextPast);
        if (row == null) {
            row = new Download(now.plan);
            putPast(nextPast, row);
        }
        row.copyFrom(now);
        nextPast = (nextPast + 1) % MOST_CHANGES;
        undoable = Math.min(undoable + 1, MOST_CHANGES);
    }

    private Download pastAt(int slot) {
        return slot >= 0 && slot < past.length ? past[slot] : null;
    }

    private void putPast(int slot, Download state) {
        if (slot >= 0 && slot < past.length) {
            past[slot] = state;
        }
    }

    // ---- tests of arguments

    private static void needIndex(int index, int size) {
        if (index < 0 || index >= size) {
            throw new IndexOutOfBoundsException("there is no such index");
        }
    }

    private static void needArgument(boolean fits) {
        if (!fits) {
            throw new IllegalArgumentException("an argument is out of range");
        }
    }

    private static void needState(boolean fits) {
        if (!fits) {
            throw new IllegalStateException("this cannot be done now");
        }
    }

    private static void needElement(boolean exists) {
        if (!exists) {
            throw new NoSuchElementException("there is none");
        }
    }

    private static boolean isName(int name) {
        return name >= 0 && name <= HIGHEST_NAME;
    }

    // ---- rows of numbers; indexes are tested here, so that the machine itself never throws

    private static int at(int[] row, int index) {
        return index >= 0 && index < row.length ? row[index] : 0;
    }

    private static void put(int[] row, int index, int value) {
        if (index >= 0 && index < row.length) {
            row[index] = value;
        }
    }

    private static void addTo(int[] row, int place, int delta) {
        put(row, place, (at(row, place) + delta) & 255);
    }

    private static void copyRow(int[] from, int[] to) {
        System.arraycopy(from, 0, to, 0, Math.min(from.length, to.length));
    }

    private static int sumOf(int[] row, int from, int length) {
        int sum = 0;
        for (int k = 0; k < length; k++) {
            sum += (k + 1) * at(row, from + k);
        }
        return sum % 9973;
    }

    private static int differences(int[] one, int[] other, int from, int length) {
        int found = 0;
        for (int place = from; place < from + length; place++) {
            if (at(one, place) != at(other, place)) {
                found++;
            }
        }
        return found;
    }

    /** What a text says. It never changes once it is read, so that all states may share it. */
    private static final class Plan {
        private final int length;
        private int blameLimit = 3;
        private int pieces = 0;
        private int parts = 0;
        private final int[] original = new int[MOST_BYTES];
        private final int[] flawed = new int[MOST_BYTES];
        private final int[] manifest = new int[MOST_PIECES];
        // of starts there is one more: where the last one ends, the next one would start
        private final int[] pieceStarts = new int[MOST_PIECES + 1];
        private final int[] firstParts = new int[MOST_PIECES + 1];
        private final int[] partStarts = new int[MOST_PARTS + 1];
        private final int[] pieceOfPart = new int[MOST_PARTS];
        private final int[] partOfPlace = new int[MOST_BYTES];
        /** Of each break the transfer, the offset and the delta. */
        private final int[] breaks = new int[3 * MOST_BREAKS];
        private int breakCount = 0;
        /** Of each cut the source and the number of parts. */
        private final int[] cuts = new int[2 * MOST_CUTS];
        private int cutCount = 0;

        Plan(int length, int seed, int pieceSize, int partSize) {
            this.length = length;
            for (int place = 0; place < length; place++) {
                int value = (seed + 37 * place + place * place / 5) % 251;
                put(original, place, value);
                put(flawed, place, value);
            }
            for (int k = 0; k < MOST_PIECES && k * pieceSize < length; k++) {
                int start = k * pieceSize;
                addPiece(start, Math.min(pieceSize, length - start), partSize);
            }
            put(pieceStarts, pieces, length);
            put(firstParts, pieces, parts);
            put(partStarts, parts, length);
        }

        private void addPiece(int start, int size, int partSize) {
            put(pieceStarts, pieces, start);
            put(firstParts, pieces, parts);
            put(manifest, pieces, sumOf(original, start, size));
            for (int k = 0; k < size && k * partSize < size; k++) {
                int offset = k * partSize;
                addPart(start + offset, Math.min(partSize, size - offset));
            }
            pieces++;
        }

        private void addPart(int start, int size) {
            put(partStarts, parts, start);
            put(pieceOfPart, parts, pieces);
            for (int place = start; place < start + size; place++) {
                put(partOfPlace, place, parts);
            }
            parts++;
        }

        void addFlaw(int place, int delta) {
            addTo(flawed, place, delta);
        }

        void addBreak(int transfer, int offset, int delta) {
            put(breaks, 3 * breakCount, transfer);
            put(breaks, 3 * breakCount + 1, offset);
            put(breaks, 3 * breakCount + 2, delta);
            breakCount++;
        }

        void addCut(int source, int sentParts) {
            put(cuts, 2 * cutCount, source);
            put(cuts, 2 * cutCount + 1, sentParts);
            cutCount++;
        }

        int[] bytesOf(int source) {
            return source == ORIGINAL ? original : flawed;
        }

        int partStart(int part) {
            return at(partStarts, part);
        }

        int partLength(int part) {
            return at(partStarts, part + 1) - at(partStarts, part);
        }

        int firstPart(int piece) {
            return at(firstParts, piece);
        }

        int partsOf(int piece) {
            return at(firstParts, piece + 1) - at(firstParts, piece);
        }

        int pieceStart(int piece) {
            return at(pieceStarts, piece);
        }

        int pieceLength(int piece) {
            return at(pieceStarts, piece + 1) - at(pieceStarts, piece);
        }

        int leadingGoodPieces(int[] bytes) {
            for (int piece = 0; piece < pieces; piece++) {
                int start = pieceStart(piece);
                int size = pieceLength(piece);
                if (start + size > bytes.length
                        || sumOf(bytes, start, size) != at(manifest, piece)) {
                    return piece;
                }
            }
            return pieces;
        }

        boolean isCutAt(int source, int sentParts) {
            for (int k = 0; k < cutCount; k++) {
                if (at(cuts, 2 * k) == source && at(cuts, 2 * k + 1) == sentParts) {
                    return true;
                }
            }
            return false;
        }
    }

    /** Reads a text; of all errors it keeps the first one, and what follows an error is lost. */
    private static final class Reader {
        private static final int NO_BYTE = -1;
        /** Far above every range, so that longer numbers may stop growing here. */
        private static final int HUGE = 100000;

        private final int[] text;
        private final int length;
        private int position = 0;
        private int flaws = 0;
        private int error = 0;
        private int errorAt = NONE;

        Reader(int[] text, int length) {
            this.text = text;
            this.length = length;
        }

        /** Returns null if there is an error. */
        Plan readPlan() {
            takeWord("file");
            int size = takeNumber(1, MOST_BYTES);
            int seed = takeNumber(0, 999);
            takeWord("pieces");
            int pieceSize = takeNumber(4, 48);
            int partSize = takeNumber(1, pieceSize);
            takeSemicolon();
            if (error != 0) {
                return null;
            }
            Plan plan = new Plan(size, seed, pieceSize, partSize);
            for (int k = 0; k < length && hasMore(); k++) {
                takeStatement(plan);
            }
            return error == 0 ? plan : null;
        }

        private boolean hasMore() {
            skipSpaces();
            return error == 0 && position < length;
        }

        private void takeStatement(Plan plan) {
            int start = position;
            if (isTaken("flaw")) {
                takeFlaw(plan, start);
            } else if (isTaken("break")) {
                takeBreak(plan, start);
            } else if (isTaken("cut")) {
                takeCut(plan, start);
            } else if (isTaken("blame")) {
                plan.blameLimit = takeNumber(1, 99);
            } else {
                fail(SYNTAX_ERROR, start);
            }
            takeSemicolon();
        }

        private void takeFlaw(Plan plan, int start) {
            if (flaws >= MOST_FLAWS) {
                fail(TOO_MANY, start);
                return;
            }
            int place = takeNumber(0, plan.length - 1);
            int delta = takeNumber(1, HIGHEST_DELTA);
            plan.addFlaw(place, delta);
            flaws++;
        }

        private void takeBreak(Plan plan, int start) {
            if (plan.breakCount >= MOST_BREAKS) {
                fail(TOO_MANY, start);
                return;
            }
            int transfer = takeNumber(1, 999);
            int offset = takeNumber(0, 47);
            int delta = takeNumber(1, HIGHEST_DELTA);
            plan.addBreak(transfer, offset, delta);
        }

        private void takeCut(Plan plan, int start) {
            if (plan.cutCount >= MOST_CUTS) {
                fail(TOO_MANY, start);
                return;
            }
            int source = takeNumber(0, SOURCES - 1);
            int sentParts = takeNumber(1, 999);
            plan.addCut(source, sentParts);
        }

        private void takeWord(String word) {
            skipSpaces();
            if (!isTaken(word)) {
                fail(SYNTAX_ERROR, position);
            }
        }

        private void takeSemicolon() {
            skipSpaces();
            if (byteAt(position) == ';') {
                position++;
            } else {
                fail(SYNTAX_ERROR, position);
            }
        }

        /** A letter right behind the word would make it a longer and thus another one. */
        private boolean isTaken(String word) {
            int size = word.length();
            for (int k = 0; k < size; k++) {
                if (byteAt(position + k) != word.charAt(k)) {
                    return false;
                }
            }
            int behind = byteAt(position + size);
            if (behind >= 'a' && behind <= 'z') {
                return false;
            }
            position += size;
            return true;
        }

        /** With an error the lowest number stands in, so that no caller has to stop at once. */
        private int takeNumber(int lowest, int highest) {
            skipSpaces();
            int start = position;
            int number = 0;
            while (position < length && isDigit(byteAt(position))) {
                number = Math.min(10 * number + byteAt(position) - '0', HUGE);
                position++;
            }
            if (position == start) {
                fail(SYNTAX_ERROR, start);
                return lowest;
            }
            if (number < lowest || number > highest) {
                fail(VALUE_ERROR, start);
                return lowest;
            }
            return number;
        }

        private void skipSpaces() {
            while (position < length && byteAt(position) == ' ') {
                position++;
            }
        }

        private static boolean isDigit(int value) {
            return value >= '0' && value <= '9';
        }

        private int byteAt(int index) {
            return index < length ? at(text, index) : NO_BYTE;
        }

        private void fail(int code, int where) {
            if (error == 0) {
                error = code;
                errorAt = where;
            }
        }
    }

    /** A kept partial file. It never changes, so that all states may share it. */
    private static final class Partial {
        private final int name;
        private final int[] bytes;

        Partial(int name, int[] bytes) {
            this.name = name;
            this.bytes = bytes;
        }
    }

    /** The latest events, in a ring. */
    private static final class Audit {
        private final int[] kinds = new int[MOST_EVENTS];
        private final int[] firsts = new int[MOST_EVENTS];
        private final int[] seconds = new int[MOST_EVENTS];
        private int total = 0;

        void write(int kind, int first, int second) {
            int slot = total % MOST_EVENTS;
            put(kinds, slot, kind);
            put(firsts, slot, first);
            put(seconds, slot, second);
            total++;
        }

        int size() {
            return Math.min(total, MOST_EVENTS);
        }

        int slot(int back) {
            return (total - 1 - back) % MOST_EVENTS;
        }

        void copyFrom(Audit other) {
            copyRow(other.kinds, kinds);
            copyRow(other.firsts, firsts);
            copyRow(other.seconds, seconds);
            total = other.total;
        }
    }

    /** The state of a transfer: all that a change changes and that undo brings back. */
    private static final class Download {
        private Plan plan;
        private final int[] bytes = new int[MOST_BYTES];
        private final int[] origins = new int[MOST_PARTS];
        private final int[] missing = new int[MOST_PIECES];
        private final int[] verdicts = new int[MOST_PIECES];
        private int missingParts = 0;
        private int goodPieces = 0;
        private int suspectPieces = 0;
        private int transfers = 0;
        private int queries = 0;
        private int dropped = 0;
        private final int[] connected = new int[SOURCES];
        private final int[] sentParts = new int[SOURCES];
        private final int[] blames = new int[SOURCES];
        private boolean banned = false;
        private final ArrayList<Partial> partials = new ArrayList<Partial>();
        private final Audit audit = new Audit();

        Download(Plan plan) {
            this.plan = plan;
        }

        void begin(Plan next) {
            plan = next;
            transfers = 0;
            queries = 0;
            dropped = 0;
            banned = false;
            Arrays.fill(connected, 1);
            Arrays.fill(sentParts, 0);
            Arrays.fill(blames, 0);
            partials.clear();
            audit.total = 0;
            loseAll();
        }

        void copyFrom(Download other) {
            plan = other.plan;
            missingParts = other.missingParts;
            goodPieces = other.goodPieces;
            suspectPieces = other.suspectPieces;
            transfers = other.transfers;
            queries = other.queries;
            dropped = other.dropped;
            banned = other.banned;
            copyRow(other.bytes, bytes);
            copyRow(other.origins, origins);
            copyRow(other.missing, missing);
            copyRow(other.verdicts, verdicts);
            copyRow(other.connected, connected);
            copyRow(other.sentParts, sentParts);
            copyRow(other.blames, blames);
            partials.clear();
            for (int k = 0; k < other.partials.size(); k++) {
                partials.add(other.partials.get(k));
            }
            audit.copyFrom(other.audit);
        }

        boolean isConnected(int source) {
            return at(connected, source) == 1;
        }

        boolean isMissing(int part) {
            return at(origins, part) == NONE;
        }

        boolean isSuspect(int piece) {
            return at(verdicts, piece) == SUSPECT;
        }

        boolean isFinished() {
            return goodPieces == plan.pieces;
        }

        int partsFrom(int source) {
            int found = 0;
            for (int part = 0; part < plan.parts; part++) {
                if (at(origins, part) == source) {
                    found++;
                }
            }
            return found;
        }

        int wrongBytesOf(int part) {
            if (isMissing(part)) {
                return 0;
            }
            return differences(bytes, plan.original, plan.partStart(part), plan.partLength(part));
        }

        int makeTicks(int most) {
            for (int ticks = 0; ticks < most; ticks++) {
                if (isFinished() || !makeTick()) {
                    return ticks;
                }
            }
            return most;
        }

        /** Returns whether anything was done. */
        private boolean makeTick() {
            boolean busy = false;
            if (isConnected(ORIGINAL) && missingParts > 0) {
                receive(lowestMissing(), ORIGINAL);
                busy = true;
            }
            if (isConnected(FLAWED) && missingParts > 0) {
                receive(highestMissing(), FLAWED);
                busy = true;
            }
            for (int piece = 0; piece < plan.pieces && isConnected(ORIGINAL); piece++) {
                if (isSuspect(piece)) {
                    searchPiece(piece);
                    busy = true;
                }
            }
            return busy;
        }

        private int lowestMissing() {
            for (int part = 0; part < plan.parts; part++) {
                if (isMissing(part)) {
                    return part;
                }
            }
            return NONE;
        }

        private int highestMissing() {
            for (int part = plan.parts - 1; part >= 0; part--) {
                if (isMissing(part)) {
                    return part;
                }
            }
            return NONE;
        }

        int receiveMissing(int piece, int source) {
            int first = plan.firstPart(piece);
            int behind = first + plan.partsOf(piece);
            int arrived = 0;
            for (int part = first; part < behind && isConnected(source); part++) {
                if (isMissing(part)) {
                    receive(part, source);
                    arrived++;
                }
            }
            return arrived;
        }

        private void receive(int part, int source) {
            transfers++;
            putPart(part, plan.bytesOf(source), source);
            breakBytes(plan.partStart(part), plan.partLength(part));
            int sentNow = at(sentParts, source) + 1;
            put(sentParts, source, sentNow);
            audit.write(ARRIVED, part, source);
            judge(at(plan.pieceOfPart, part));
            if (plan.isCutAt(source, sentNow)) {
                put(connected, source, 0);
                audit.write(WAS_CUT, source, sentNow);
            }
        }

        private void putPart(int part, int[] from, int origin) {
            int start = plan.partStart(part);
            int behind = start + plan.partLength(part);
            for (int place = start; place < behind; place++) {
                put(bytes, place, at(from, place));
            }
            int piece = at(plan.pieceOfPart, part);
            put(origins, part, origin);
            put(missing, piece, at(missing, piece) - 1);
            missingParts--;
        }

        private void breakBytes(int start, int length) {
            for (int k = 0; k < plan.breakCount; k++) {
                int offset = at(plan.breaks, 3 * k + 1);
                if (at(plan.breaks, 3 * k) == transfers && offset < length) {
                    addTo(bytes, start + offset, at(plan.breaks, 3 * k + 2));
                }
            }
        }

        private void judge(int piece) {
            if (at(missing, piece) > 0) {
                return;
            }
            int sum = sumOf(bytes, plan.pieceStart(piece), plan.pieceLength(piece));
            if (sum == at(plan.manifest, piece)) {
                put(verdicts, piece, GOOD);
                goodPieces++;
                audit.write(JUDGED_GOOD, piece, 0);
            } else {
                put(verdicts, piece, SUSPECT);
                suspectPieces++;
                audit.write(JUDGED_SUSPECT, piece, 0);
            }
        }

        void lose(int part) {
            int piece = at(plan.pieceOfPart, part);
            if (at(verdicts, piece) == GOOD) {
                goodPieces--;
            } else if (at(verdicts, piece) == SUSPECT) {
                suspectPieces--;
            }
            put(verdicts, piece, INCOMPLETE);
            put(origins, part, NONE);
            put(missing, piece, at(missing, piece) + 1);
            missingParts++;
        }

        private void loseAll() {
            Arrays.fill(origins, NONE);
            Arrays.fill(verdicts, INCOMPLETE);
            for (int piece = 0; piece < plan.pieces; piece++) {
                put(missing, piece, plan.partsOf(piece));
            }
            missingParts = plan.parts;
            goodPieces = 0;
            suspectPieces = 0;
        }

        int searchPiece(int piece) {
            int first = plan.firstPart(piece);
            int size = plan.partsOf(piece);
            int droppedBefore = dropped;
            int asked = searchRange(first, size, true, 0);
            queries += asked;
            if (dropped == droppedBefore) {
                dropWhole(piece, first, size);
            }
            banIfTooOftenWrong();
            return asked;
        }

        int queriesNeeded(int piece) {
            return searchRange(plan.firstPart(piece), plan.partsOf(piece), false, 0);
        }

        /** Searches a range of parts, or only counts the queries; returns their number. */
        private int searchRange(int first, int size, boolean dropping, int depth) {
            if (size <= 1 || depth > DEEPEST_SEARCH) {
                if (dropping) {
                    dropWrong(first);
                }
                return 0;
            }
            int half = (size + 1) / 2;
            int asked = 2;
            if (!isSameAsOriginal(first, half)) {
                asked += searchRange(first, half, dropping, depth + 1);
            }
            if (!isSameAsOriginal(first + half, size - half)) {
                asked += searchRange(first + half, size - half, dropping, depth + 1);
            }
            return asked;
        }

        /** Asks for a checksum; different bytes may have the same one and are then not found. */
        private boolean isSameAsOriginal(int first, int size) {
            int start = plan.partStart(first);
            int length = plan.partStart(first + size) - start;
            return sumOf(bytes, start, length) == sumOf(plan.original, start, length);
        }

        private void dropWrong(int part) {
            int origin = at(origins, part);
            lose(part);
            dropped++;
            if (origin < SOURCES) {
                put(blames, origin, at(blames, origin) + 1);
            }
            audit.write(DROPPED_AS_WRONG, part, origin);
        }

        private void dropWhole(int piece, int first, int size) {
            for (int part = first; part < first + size; part++) {
                lose(part);
                dropped++;
            }
            audit.write(DROPPED_AS_A_WHOLE, piece, 0);
        }

        private void banIfTooOftenWrong() {
            int blame = at(blames, FLAWED);
            if (blame >= plan.blameLimit && !banned) {
                banned = true;
                put(connected, FLAWED, 0);
                audit.write(WAS_BANNED, FLAWED, blame);
            }
        }

        int keepArrived(int name) {
            int behind = missingParts == 0 ? plan.length : plan.partStart(lowestMissing());
            int[] arrived = Arrays.copyOf(bytes, Math.max(behind, 0));
            partials.add(new Partial(name, arrived));
            audit.write(WAS_KEPT, name, arrived.length);
            loseAll();
            return arrived.length;
        }

        /** No part is present before, so that each piece is judged at most once here. */
        void takeUp(Partial kept) {
            for (int part = 0; part < plan.parts; part++) {
                if (plan.partStart(part) + plan.partLength(part) <= kept.bytes.length) {
                    putPart(part, kept.bytes, KEPT);
                }
            }
            audit.write(WAS_RESUMED, kept.name, plan.parts - missingParts);
            for (int piece = 0; piece < plan.pieces; piece++) {
                judge(piece);
            }
        }
    }
}
