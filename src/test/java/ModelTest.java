import java.lang.reflect.InvocationTargetException;
import java.lang.reflect.Method;
import java.nio.charset.StandardCharsets;
import java.util.ArrayList;
import java.util.Arrays;
import java.util.Comparator;
import java.util.List;
import java.util.Random;

/** Compares the program with the model in many random runs of 512 calls; the seeds are fixed. */
public final class ModelTest {
    private static final int RUNS = 4000;
    /** Of one object no more is promised. */
    private static final int CALLS = 512;

    private final Random random;
    private final PieceTransfer program = new PieceTransfer();
    private final Model model = new Model();
    private final List<Method> face = new ArrayList<>();
    private final List<String> story = new ArrayList<>();
    private boolean same = true;

    private ModelTest(long seed) {
        random = new Random(seed);
        for (Method m : PieceTransfer.class.getDeclaredMethods()) {
            if (java.lang.reflect.Modifier.isPublic(m.getModifiers())) {
                face.add(m);
            }
        }
        face.sort(Comparator.comparing(Method::getName));
    }

    public static void main(String[] args) throws Exception {
        int first = args.length > 0 ? Integer.parseInt(args[0]) : 0;
        int runs = args.length > 1 ? Integer.parseInt(args[1]) : RUNS;
        for (int seed = first; seed < first + runs; seed++) {
            ModelTest run = new ModelTest(seed);
            run.play();
            Check.isTrue("run " + seed, run.same);
            if (!run.same) {
                int from = Math.max(0, run.story.size() - 30);
                System.out.println(String.join("\n", run.story.subList(from, run.story.size())));
                break;
            }
        }
        Check.end();
    }

    private void play() throws Exception {
        int eager = random.nextInt(4);
        while (same && story.size() < CALLS) {
            if (story.size() == 0 || random.nextInt(60) == 0) {
                loadSome();
            }
            Method m = pick(eager);
            call(m, arguments(m));
            if (random.nextInt(12) == 0) {
                observe();
            }
        }
    }

    /** Changes come more often than tellings, since only they lead anywhere. */
    private Method pick(int eager) {
        String[] changes = {"connect", "fetch", "fetch", "fetch", "search", "search", "drop", "run",
            "keep", "resume", "rename", "spoil", "discard", "undo"};
        if (random.nextInt(4) < eager) {
            String name = changes[random.nextInt(changes.length)];
            for (Method m : face) {
                if (m.getName().equals(name)) {
                    return m;
                }
            }
        }
        return face.get(random.nextInt(face.size()));
    }

    /** Most arguments fit the state; some lie just outside, and a few anywhere. */
    private Object[] arguments(Method m) {
        Class<?>[] types = m.getParameterTypes();
        Object[] values = new Object[types.length];
        for (int k = 0; k < types.length; k++) {
            if (types[k] == boolean.class) {
                values[k] = random.nextInt(3) > 0;
            } else if (random.nextInt(40) == 0) {
                int[] odd = {-1, Integer.MIN_VALUE, Integer.MAX_VALUE, 1000, 256, 240, 300, 301};
                values[k] = odd[random.nextInt(odd.length)];
            } else {
                values[k] = likely(m.getName(), k, values);
            }
        }
        return values;
    }

    private int likely(String name, int k, Object[] before) {
        switch (name) {
            case "append": return random.nextInt();
            case "load": return random.nextInt(50);
            case "count": return random.nextInt(13);
            case "source": return random.nextInt(k == 0 ? 2 : 6);
            case "sent": return k == 0 ? random.nextInt(2) : below(model.count(0));
            case "got": return below(model.count(0));
            case "piece": return k == 0 ? below(model.count(1)) : random.nextInt(8);
            case "part": return k == 0 ? below(model.count(2)) : random.nextInt(6);
            case "checksum": return k == 0 ? random.nextInt(2) : k == 1 ? below(model.count(0))
                    : 1 + random.nextInt(Math.max(1, model.count(0) - (Integer) before[1]));
            case "connect": return random.nextInt(2);
            case "fetch": return k == 0 ? random.nextInt(2) : below(model.count(1));
            case "search": case "queriesFor": return suspect();
            case "drop": return below(model.count(2));
            case "run": return random.nextInt(3) == 0 ? 1 + random.nextInt(300)
                    : 1 + random.nextInt(6);
            case "keep": return random.nextInt(4);
            case "resume": case "discard": return below(model.count(8));
            case "named": return random.nextInt(5);
            case "sized": return model.count(8) > 0 && random.nextBoolean()
                    ? model.partial(random.nextInt(model.count(8)), 1) : random.nextInt(50);
            case "rename": return k == 0 ? below(model.count(8)) : random.nextInt(4);
            case "spoil": return k == 0 ? below(model.count(8)) : k == 1
                    ? random.nextInt(30) : random.nextInt(258);
            case "partial": return k == 0 ? below(model.count(8)) : random.nextInt(6);
            case "event": return k == 0 ? below(Math.min(40, model.count(9)))
                    : random.nextInt(4);
            case "events": return random.nextInt(10);
            case "writtenByte": return below(model.count(1));
            default: return random.nextInt(10);
        }
    }

    private int suspect() {
        int start = random.nextInt(model.count(1));
        for (int k = 0; k < model.count(1); k++) {
            int piece = (start + k) % model.count(1);
            if (model.piece(piece, 6) == 2) {
                return piece;
            }
        }
        return below(model.count(1));
    }

    /** Now and then just at the bound or below 0. */
    private int below(int bound) {
        int value = random.nextInt(bound + 1);
        if (value == bound && random.nextInt(4) > 0) {
            value = random.nextInt(Math.max(1, bound));
        }
        return random.nextInt(50) == 0 ? -1 : value;
    }

    private void loadSome() throws Exception {
        byte[] bytes = text().getBytes(StandardCharsets.ISO_8859_1);
        call("load", 0);
        for (int from = 0; from < bytes.length; from += 20) {
            Object[] words = new Object[5];
            for (int w = 0; w < 5; w++) {
                int value = 0;
                for (int b = 0; b < 4; b++) {
                    int at = from + 4 * w + b;
                    value = value << 8 | (at < bytes.length ? bytes[at] & 255 : ' ');
                }
                words[w] = value;
            }
            call("append", words);
        }
        call("load", bytes.length);
        call("errorPosition");
    }

    private String text() {
        int length = random.nextInt(5) == 0 ? number(1, 240) : number(1, 40);
        int piece = random.nextInt(4) == 0 ? number(4, 48) : number(4, 12);
        int part = random.nextBoolean() ? number(1, 3) : number(1, piece);
        StringBuilder text = new StringBuilder();
        text.append("file ").append(length).append(' ').append(number(0, 999)).append(" pieces ")
                .append(piece).append(' ').append(part).append(';');
        int statements = random.nextInt(4) == 0 ? random.nextInt(30) : random.nextInt(9);
        int kind = random.nextInt(5);
        for (int k = 0; k < statements; k++) {
            switch (kind < 4 && random.nextBoolean() ? kind : random.nextInt(4)) {
                case 0:
                    text.append("flaw ").append(number(0, length - 1)).append(' ')
                            .append(delta()).append(';');
                    break;
                case 1:
                    text.append("break ").append(number(1, 30)).append(' ')
                            .append(number(0, part)).append(' ').append(delta()).append(';');
                    break;
                case 2:
                    text.append(random.nextBoolean() ? "  cut " : "cut ").append(number(0, 1))
                            .append(' ').append(number(1, 20)).append(';');
                    break;
                default:
                    text.append("blame ").append(random.nextInt(3) == 0 ? number(1, 99)
                            : number(1, 5)).append(';');
            }
        }
        if (random.nextInt(3) == 0) {
            addHiddenErrors(text, length, Math.max(1, part));
        }
        if (random.nextInt(3) == 0) {
            spoilText(text);
        }
        return text.length() > 400 ? text.substring(0, 400) : text.toString();
    }

    /** Pairs of errors that leave the checksum of a half as it is, but not that of the piece. */
    private void addHiddenErrors(StringBuilder text, int length, int part) {
        for (int k = random.nextInt(4); k >= 0; k--) {
            if (random.nextBoolean() && length > 2 * part) {
                int place = part * random.nextInt(length / part);
                text.append("flaw ").append(place).append(" 2;flaw ").append(place + 1)
                        .append(" 255;");
            } else {
                int transfer = number(1, 12);
                text.append("break ").append(transfer).append(" 0 2;break ").append(transfer)
                        .append(" 1 255;");
            }
        }
    }

    private void spoilText(StringBuilder text) {
        int at = random.nextInt(text.length());
        String signs = " ;09azA\u0000\u00e9-flaw";
        switch (random.nextInt(4)) {
            case 0:
                text.deleteCharAt(at);
                break;
            case 1:
                text.insert(at, signs.charAt(random.nextInt(signs.length())));
                break;
            case 2:
                text.setCharAt(at, signs.charAt(random.nextInt(signs.length())));
                break;
            default:
                text.setLength(at);
        }
    }

    /** Small deltas at times, so that different bytes get the same checksum. */
    private int delta() {
        return random.nextBoolean() ? number(1, 4) : number(252, 255);
    }

    /** Rarely just outside. */
    private int number(int low, int high) {
        int value = low + random.nextInt(Math.max(1, high - low + 1));
        if (random.nextInt(60) == 0) {
            value = low > 0 && random.nextBoolean() ? low - 1 : high;
        }
        return random.nextInt(400) == 0 ? high + 1 : value;
    }

    /** All that can be told of the state. */
    private void observe() throws Exception {
        for (int what = 0; what <= 12; what++) {
            call("count", what);
        }
        for (int source = 0; source < 2; source++) {
            for (int what = 0; what <= 4; what++) {
                call("source", source, what);
            }
        }
        for (int place = 0; place < model.count(0); place += 1 + random.nextInt(9)) {
            call("got", place);
        }
        for (int piece = 0; piece < model.count(1); piece++) {
            call("piece", piece, 6);
        }
        for (int back = 0; back < 41; back++) {
            call("event", back, random.nextInt(3));
        }
        for (int partial = 0; partial <= model.count(8); partial++) {
            call("partial", partial, random.nextInt(5));
        }
        call("wrongBytes");
        call("differingParts");
        call("progress");
        call("writeMap");
        call("ticksLeft");
    }

    private void call(String name, Object... arguments) throws Exception {
        for (Method m : face) {
            if (m.getName().equals(name)) {
                call(m, arguments);
            }
        }
    }

    private void call(Method m, Object[] arguments) throws Exception {
        if (!same || story.size() == CALLS) {
            return;
        }
        String want = answer(Model.class.getMethod(m.getName(), m.getParameterTypes()), model,
                arguments);
        String got = answer(m, program, arguments);
        story.add(m.getName() + Arrays.toString(arguments) + " answered " + got + ", due is "
                + want);
        same = want.equals(got);
    }

    private static String answer(Method m, Object target, Object[] arguments) throws Exception {
        try {
            return String.valueOf(m.invoke(target, arguments));
        } catch (InvocationTargetException e) {
            return "throws " + e.getCause().getClass().getName();
        }
    }
}
