import java.util.ArrayList;
import java.util.List;
import java.util.NoSuchElementException;
import java.util.regex.Matcher;
import java.util.regex.Pattern;

/**
 * The document once more, as slowly and plainly as it can be told: nothing is counted along, all
 * is found out anew, and a change copies everything. ModelTest compares the program with it.
 */
public final class Model {
    static final class Part {
        int piece;
        int start;
        int length;
        int origin = -1;
        List<Integer> bytes = null;

        Part copy() {
            Part other = new Part();
            other.piece = piece;
            other.start = start;
            other.length = length;
            other.origin = origin;
            other.bytes = bytes == null ? null : new ArrayList<>(bytes);
            return other;
        }
    }

    static final class Kept {
        int name;
        List<Integer> bytes;

        Kept(int name, List<Integer> bytes) {
            this.name = name;
            this.bytes = new ArrayList<>(bytes);
        }
    }

    static final class World {
        int length;
        int seed;
        int p;
        int q;
        int limit = 3;
        List<int[]> flaws = new ArrayList<>();
        List<int[]> breaks = new ArrayList<>();
        List<int[]> cuts = new ArrayList<>();
        List<Part> parts = new ArrayList<>();
        List<Kept> kept = new ArrayList<>();
        List<int[]> events = new ArrayList<>();
        boolean[] connected = {true, true};
        boolean banned = false;
        int[] sent = {0, 0};
        int[] blame = {0, 0};
        int transfers = 0;
        int queries = 0;
        int dropped = 0;

        World copy() {
            World w = new World();
            w.length = length;
            w.seed = seed;
            w.p = p;
            w.q = q;
            w.limit = limit;
            w.flaws = flaws;
            w.breaks = breaks;
            w.cuts = cuts;
            for (Part part : parts) {
                w.parts.add(part.copy());
            }
            for (Kept k : kept) {
                w.kept.add(new Kept(k.name, k.bytes));
            }
            w.events.addAll(events);
            w.connected = connected.clone();
            w.banned = banned;
            w.sent = sent.clone();
            w.blame = blame.clone();
            w.transfers = transfers;
            w.queries = queries;
            w.dropped = dropped;
            return w;
        }

        void divide() {
            for (int place = 0; place < length; place++) {
                boolean newPiece = place % p == 0;
                if (newPiece || place % p % q == 0) {
                    Part part = new Part();
                    part.piece = place / p;
                    part.start = place;
                    parts.add(part);
                }
                parts.get(parts.size() - 1).length++;
            }
        }

        int pieces() {
            return parts.get(parts.size() - 1).piece + 1;
        }

        int sourceByte(int source, int k) {
            int value = (seed + 37 * k + k * k / 5) % 251;
            for (int[] flaw : flaws) {
                if (source == 1 && flaw[0] == k) {
                    value = (value + flaw[1]) % 256;
                }
            }
            return value;
        }

        List<Integer> sourceBytes(int source, int from, int howMany) {
            List<Integer> bytes = new ArrayList<>();
            for (int k = 0; k < howMany; k++) {
                bytes.add(sourceByte(source, from + k));
            }
            return bytes;
        }

        List<Integer> partsOf(int piece) {
            List<Integer> numbers = new ArrayList<>();
            for (int k = 0; k < parts.size(); k++) {
                if (parts.get(k).piece == piece) {
                    numbers.add(k);
                }
            }
            return numbers;
        }

        int startOf(int piece) {
            return parts.get(partsOf(piece).get(0)).start;
        }

        int lengthOf(int piece) {
            int sum = 0;
            for (int k : partsOf(piece)) {
                sum += parts.get(k).length;
            }
            return sum;
        }

        int missingOf(int piece) {
            int sum = 0;
            for (int k : partsOf(piece)) {
                sum += parts.get(k).bytes == null ? 1 : 0;
            }
            return sum;
        }

        int missing() {
            int sum = 0;
            for (int piece = 0; piece < pieces(); piece++) {
                sum += missingOf(piece);
            }
            return sum;
        }

        int manifest(int piece) {
            return checksum(sourceBytes(0, startOf(piece), lengthOf(piece)));
        }

        List<Integer> arrived(List<Integer> numbers) {
            List<Integer> bytes = new ArrayList<>();
            for (int k : numbers) {
                bytes.addAll(parts.get(k).bytes);
            }
            return bytes;
        }

        int state(int piece) {
            if (missingOf(piece) > 0) {
                return 0;
            }
            return checksum(arrived(partsOf(piece))) == manifest(piece) ? 1 : 2;
        }

        int inState(int state) {
            int sum = 0;
            for (int piece = 0; piece < pieces(); piece++) {
                sum += state(piece) == state ? 1 : 0;
            }
            return sum;
        }

        void tell(int kind, int one, int two) {
            events.add(new int[] {kind, one, two});
        }

        void judge(int piece) {
            if (state(piece) != 0) {
                tell(state(piece), piece, 0);
            }
        }

        void transfer(int number, int source) {
            Part part = parts.get(number);
            transfers++;
            part.bytes = sourceBytes(source, part.start, part.length);
            for (int[] b : breaks) {
                if (b[0] == transfers && b[1] < part.length) {
                    part.bytes.set(b[1], (part.bytes.get(b[1]) + b[2]) % 256);
                }
            }
            part.origin = source;
            sent[source]++;
            tell(0, number, source);
            judge(part.piece);
            for (int[] c : cuts) {
                if (c[0] == source && c[1] == sent[source] && connected[source]) {
                    connected[source] = false;
                    tell(5, source, sent[source]);
                }
            }
        }

        void forget(int number) {
            parts.get(number).bytes = null;
            parts.get(number).origin = -1;
        }

        /** Lists the parts found to be wrong, in their order; adds the queries to asked[0]. */
        void findWrong(List<Integer> range, List<Integer> wrong, int[] asked) {
            if (range.size() == 1) {
                wrong.add(range.get(0));
                return;
            }
            int middle = range.size() / 2 + range.size() % 2;
            List<List<Integer>> halves = List.of(range.subList(0, middle),
                    range.subList(middle, range.size()));
            for (List<Integer> half : halves) {
                asked[0]++;
                List<Integer> mine = arrived(half);
                List<Integer> right = sourceBytes(0, parts.get(half.get(0)).start, mine.size());
                if (checksum(mine) != checksum(right)) {
                    findWrong(half, wrong, asked);
                }
            }
        }

        int search(int piece) {
            List<Integer> wrong = new ArrayList<>();
            int[] asked = {0};
            findWrong(partsOf(piece), wrong, asked);
            queries += asked[0];
            for (int number : wrong) {
                int origin = parts.get(number).origin;
                forget(number);
                dropped++;
                if (origin < 2) {
                    blame[origin]++;
                }
                tell(3, number, origin);
            }
            if (wrong.isEmpty()) {
                for (int number : partsOf(piece)) {
                    forget(number);
                    dropped++;
                }
                tell(4, piece, 0);
            }
            if (!banned && blame[1] >= limit) {
                banned = true;
                connected[1] = false;
                tell(6, 1, blame[1]);
            }
            return asked[0];
        }

        int run(int most) {
            int ticks = 0;
            while (ticks < most && inState(1) < pieces()) {
                boolean done = false;
                if (connected[0] && missing() > 0) {
                    int number = 0;
                    while (parts.get(number).bytes != null) {
                        number++;
                    }
                    transfer(number, 0);
                    done = true;
                }
                if (connected[1] && missing() > 0) {
                    int number = parts.size() - 1;
                    while (parts.get(number).bytes != null) {
                        number--;
                    }
                    transfer(number, 1);
                    done = true;
                }
                if (connected[0]) {
                    for (int piece = 0; piece < pieces(); piece++) {
                        if (state(piece) == 2) {
                            search(piece);
                            done = true;
                        }
                    }
                }
                if (!done) {
                    return ticks;
                }
                ticks++;
            }
            return ticks;
        }
    }

    private StringBuilder buffer = new StringBuilder();
    private int errorPosition = -1;
    private String written = "";
    private World world;
    private final List<World> history = new ArrayList<>();

    public Model() {
        World first = new World();
        first.length = 1;
        first.seed = 0;
        first.p = 4;
        first.q = 4;
        first.divide();
        world = first;
    }

    static int checksum(List<Integer> bytes) {
        long sum = 0;
        for (int k = 1; k <= bytes.size(); k++) {
            sum += (long) k * bytes.get(k - 1);
        }
        return (int) (sum % 9973);
    }

    private void change() {
        history.add(world.copy());
        if (history.size() > 8) {
            history.remove(0);
        }
    }

    private static void index(int index, int size) {
        if (index < 0 || index >= size) {
            throw new IndexOutOfBoundsException();
        }
    }

    private static void argument(boolean fits) {
        if (!fits) {
            throw new IllegalArgumentException();
        }
    }

    private static void state(boolean fits) {
        if (!fits) {
            throw new IllegalStateException();
        }
    }

    public int append(int a, int b, int c, int d, int e) {
        state(buffer.length() <= 380);
        for (int four : new int[] {a, b, c, d, e}) {
            for (int k = 3; k >= 0; k--) {
                buffer.append((char) ((four >> 8 * k) & 0xff));
            }
        }
        return buffer.length();
    }

    static final class Wrong extends RuntimeException {
        private static final long serialVersionUID = 1L;
        final int code;
        final int where;

        Wrong(int code, int where) {
            this.code = code;
            this.where = where;
        }
    }

    /** The tokens of a text with their places; the last one is the end, an empty token. */
    static final class Tokens {
        final List<String> tokens = new ArrayList<>();
        final List<Integer> places = new ArrayList<>();
        int next = 0;

        Tokens(String text) {
            Matcher m = Pattern.compile("[a-z]+|[0-9]+|[^ ]", Pattern.DOTALL).matcher(text);
            while (m.find()) {
                tokens.add(m.group());
                places.add(m.start());
            }
            tokens.add("");
            places.add(text.length());
        }

        void exactly(String token) {
            if (!tokens.get(next).equals(token)) {
                throw new Wrong(-2, places.get(next));
            }
            next++;
        }

        int number(int low, int high) {
            String token = tokens.get(next);
            if (!token.matches("[0-9]+")) {
                throw new Wrong(-2, places.get(next));
            }
            java.math.BigInteger n = new java.math.BigInteger(token);
            if (n.compareTo(java.math.BigInteger.valueOf(low)) < 0
                    || n.compareTo(java.math.BigInteger.valueOf(high)) > 0) {
                throw new Wrong(-3, places.get(next));
            }
            next++;
            return n.intValue();
        }
    }

    private static World read(String text) {
        Tokens t = new Tokens(text);
        World w = new World();
        t.exactly("file");
        w.length = t.number(1, 240);
        w.seed = t.number(0, 999);
        t.exactly("pieces");
        w.p = t.number(4, 48);
        w.q = t.number(1, w.p);
        t.exactly(";");
        while (t.next < t.tokens.size() - 1) {
            String word = t.tokens.get(t.next);
            int where = t.places.get(t.next);
            t.next++;
            if (word.equals("flaw")) {
                tooMany(w.flaws.size() == 12, where);
                w.flaws.add(new int[] {t.number(0, w.length - 1), t.number(1, 255)});
            } else if (word.equals("break")) {
                tooMany(w.breaks.size() == 12, where);
                w.breaks.add(new int[] {t.number(1, 999), t.number(0, 47), t.number(1, 255)});
            } else if (word.equals("cut")) {
                tooMany(w.cuts.size() == 8, where);
                w.cuts.add(new int[] {t.number(0, 1), t.number(1, 999)});
            } else if (word.equals("blame")) {
                w.limit = t.number(1, 99);
            } else {
                throw new Wrong(-2, where);
            }
            t.exactly(";");
        }
        w.divide();
        return w;
    }

    private static void tooMany(boolean so, int where) {
        if (so) {
            throw new Wrong(-4, where);
        }
    }

    public int load(int length) {
        argument(length >= 0 && length <= buffer.length());
        String text = buffer.substring(0, length);
        buffer = new StringBuilder();
        try {
            World w = read(text);
            errorPosition = -1;
            change();
            world = w;
            return w.parts.size();
        } catch (Wrong e) {
            errorPosition = e.where;
            return e.code;
        }
    }

    public int errorPosition() {
        return errorPosition;
    }

    public int count(int what) {
        argument(what >= 0 && what <= 11);
        return new int[] {world.length, world.pieces(), world.parts.size(), world.transfers,
            world.queries, world.inState(1), world.inState(2), world.missing(),
            world.kept.size(), world.events.size(), world.dropped, world.limit}[what];
    }

    public int source(int source, int what) {
        index(source, 2);
        argument(what >= 0 && what <= 4);
        int own = 0;
        for (Part part : world.parts) {
            own += part.origin == source ? 1 : 0;
        }
        return new int[] {world.connected[source] ? 1 : 0, source == 1 && world.banned ? 1 : 0,
            world.sent[source], world.blame[source], own}[what];
    }

    public int sent(int source, int place) {
        index(source, 2);
        index(place, world.length);
        return world.sourceByte(source, place);
    }

    public int got(int place) {
        index(place, world.length);
        for (Part part : world.parts) {
            if (part.bytes != null && place >= part.start && place < part.start + part.length) {
                return part.bytes.get(place - part.start);
            }
        }
        return -1;
    }

    public int piece(int piece, int what) {
        index(piece, world.pieces());
        argument(what >= 0 && what <= 6);
        return new int[] {world.startOf(piece), world.lengthOf(piece),
            world.partsOf(piece).get(0), world.partsOf(piece).size(), world.missingOf(piece),
            world.manifest(piece), world.state(piece)}[what];
    }

    public int part(int part, int what) {
        index(part, world.parts.size());
        argument(what >= 0 && what <= 4);
        Part p = world.parts.get(part);
        return new int[] {p.start, p.length, p.piece, p.origin, wrongIn(p)}[what];
    }

    private int wrongIn(Part p) {
        int wrong = 0;
        for (int k = 0; p.bytes != null && k < p.length; k++) {
            wrong += p.bytes.get(k) == world.sourceByte(0, p.start + k) ? 0 : 1;
        }
        return wrong;
    }

    public int checksum(int source, int from, int length) {
        index(source, 2);
        index(from, world.length);
        argument(length >= 1 && length <= world.length - from);
        return checksum(world.sourceBytes(source, from, length));
    }

    public boolean connect(int source, boolean on) {
        index(source, 2);
        state(!(source == 1 && world.banned && on));
        change();
        boolean before = world.connected[source];
        world.connected[source] = on;
        return before;
    }

    public int fetch(int source, int piece) {
        index(source, 2);
        index(piece, world.pieces());
        state(world.connected[source] && world.missingOf(piece) > 0);
        change();
        int arrived = 0;
        for (int number : world.partsOf(piece)) {
            if (world.connected[source] && world.parts.get(number).bytes == null) {
                world.transfer(number, source);
                arrived++;
            }
        }
        return arrived;
    }

    public int search(int piece) {
        index(piece, world.pieces());
        state(world.state(piece) == 2 && world.connected[0]);
        change();
        return world.search(piece);
    }

    public int queriesFor(int piece) {
        index(piece, world.pieces());
        if (world.state(piece) != 2) {
            throw new NoSuchElementException();
        }
        return world.copy().search(piece);
    }

    public int drop(int part) {
        index(part, world.parts.size());
        state(world.parts.get(part).bytes != null);
        change();
        int origin = world.parts.get(part).origin;
        world.forget(part);
        return origin;
    }

    public int run(int most) {
        argument(most >= 1 && most <= 300);
        change();
        return world.run(most);
    }

    public int ticksLeft() {
        World w = world.copy();
        int ticks = w.run(600);
        return w.inState(1) == w.pieces() ? ticks : -1;
    }

    public int keep(int name) {
        argument(name >= 0 && name <= 999);
        state(world.parts.get(0).bytes != null && world.kept.size() < 4);
        change();
        List<Integer> bytes = new ArrayList<>();
        for (Part part : world.parts) {
            if (part.bytes == null) {
                break;
            }
            bytes.addAll(part.bytes);
        }
        for (int number = 0; number < world.parts.size(); number++) {
            world.forget(number);
        }
        world.kept.add(new Kept(name, bytes));
        world.tell(7, name, bytes.size());
        return bytes.size();
    }

    public int resume(int partial) {
        index(partial, world.kept.size());
        state(world.missing() == world.parts.size());
        change();
        Kept k = world.kept.remove(partial);
        for (Part part : world.parts) {
            if (part.start + part.length <= k.bytes.size()) {
                part.bytes = new ArrayList<>(k.bytes.subList(part.start, part.start + part.length));
                part.origin = 2;
            }
        }
        world.tell(8, k.name, world.parts.size() - world.missing());
        for (int piece = 0; piece < world.pieces(); piece++) {
            world.judge(piece);
        }
        return world.inState(1);
    }

    public int named(int name) {
        for (int k = world.kept.size() - 1; k >= 0; k--) {
            if (world.kept.get(k).name == name) {
                return k;
            }
        }
        throw new NoSuchElementException();
    }

    public int sized(int length) {
        for (int k = 0; k < world.kept.size(); k++) {
            if (world.kept.get(k).bytes.size() == length) {
                return k;
            }
        }
        throw new NoSuchElementException();
    }

    public int rename(int partial, int name) {
        index(partial, world.kept.size());
        argument(name >= 0 && name <= 999);
        change();
        int before = world.kept.get(partial).name;
        world.kept.get(partial).name = name;
        return before;
    }

    public int spoil(int partial, int place, int delta) {
        index(partial, world.kept.size());
        index(place, world.kept.get(partial).bytes.size());
        argument(delta >= 1 && delta <= 255);
        change();
        List<Integer> bytes = world.kept.get(partial).bytes;
        bytes.set(place, (bytes.get(place) + delta) % 256);
        return bytes.get(place);
    }

    public int discard(int partial) {
        index(partial, world.kept.size());
        change();
        world.kept.remove(partial);
        return world.kept.size();
    }

    public int partial(int partial, int what) {
        index(partial, world.kept.size());
        argument(what >= 0 && what <= 4);
        Kept k = world.kept.get(partial);
        int wrong = 0;
        for (int place = 0; place < k.bytes.size(); place++) {
            wrong += k.bytes.get(place) == world.sourceByte(0, place) ? 0 : 1;
        }
        int good = 0;
        while (good < world.pieces() && isGoodIn(k, good)) {
            good++;
        }
        return new int[] {k.name, k.bytes.size(), checksum(k.bytes), wrong, good}[what];
    }

    private boolean isGoodIn(Kept k, int piece) {
        int start = world.startOf(piece);
        int end = start + world.lengthOf(piece);
        return end <= k.bytes.size()
                && checksum(k.bytes.subList(start, end)) == world.manifest(piece);
    }

    public int wrongBytes() {
        int wrong = 0;
        for (Part part : world.parts) {
            wrong += wrongIn(part);
        }
        return wrong;
    }

    public int differingParts() {
        int differing = 0;
        for (Part part : world.parts) {
            differing += world.sourceBytes(0, part.start, part.length)
                    .equals(world.sourceBytes(1, part.start, part.length)) ? 0 : 1;
        }
        return differing;
    }

    public float progress() {
        int bytes = 0;
        for (int piece = 0; piece < world.pieces(); piece++) {
            bytes += world.state(piece) == 1 ? world.lengthOf(piece) : 0;
        }
        return (float) bytes / (float) world.length;
    }

    private List<int[]> audit() {
        int all = world.events.size();
        return world.events.subList(Math.max(0, all - 40), all);
    }

    public int event(int back, int what) {
        index(back, audit().size());
        argument(what >= 0 && what <= 2);
        return audit().get(audit().size() - 1 - back)[what];
    }

    public int events(int kind) {
        argument(kind >= 0 && kind <= 8);
        int found = 0;
        for (int[] event : audit()) {
            found += event[0] == kind ? 1 : 0;
        }
        return found;
    }

    public int writeMap() {
        StringBuilder map = new StringBuilder();
        for (int piece = 0; piece < world.pieces(); piece++) {
            int missing = world.missingOf(piece);
            if (missing == world.partsOf(piece).size()) {
                map.append('.');
            } else if (missing > 0) {
                map.append(missing % 10);
            } else {
                map.append(world.state(piece) == 1 ? "G" : "S");
            }
        }
        written = map.toString();
        return written.length();
    }

    public int writtenByte(int index) {
        index(index, written.length());
        return written.charAt(index);
    }

    public int undo() {
        state(!history.isEmpty());
        world = history.remove(history.size() - 1);
        return history.size();
    }
}
