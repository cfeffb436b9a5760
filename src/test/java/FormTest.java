import java.lang.reflect.Constructor;
import java.lang.reflect.Field;
import java.lang.reflect.Method;
import java.lang.reflect.Modifier;
import java.nio.charset.StandardCharsets;
import java.nio.file.Files;
import java.nio.file.Path;
import java.util.ArrayList;
import java.util.Arrays;
import java.util.Collections;
import java.util.List;
import java.util.Map;
import java.util.Set;
import java.util.TreeMap;
import java.util.TreeSet;
import java.util.regex.Matcher;
import java.util.regex.Pattern;

/** The public face of the document and those rules of ../shared/LANGUAGE.md that a text shows. */
public final class FormTest {
    private static final String ARGUMENT = "IllegalArgumentException";
    private static final String INDEX = "IndexOutOfBoundsException";
    private static final String STATE = "IllegalStateException";
    private static final String ELEMENT = "NoSuchElementException";

    private static final String[] FACE = {
        "int append(int,int,int,int,int) " + STATE,
        "int load(int) " + ARGUMENT,
        "int errorPosition() ",
        "int count(int) " + ARGUMENT,
        "int source(int,int) " + INDEX + "," + ARGUMENT,
        "int sent(int,int) " + INDEX,
        "int got(int) " + INDEX,
        "int piece(int,int) " + INDEX + "," + ARGUMENT,
        "int part(int,int) " + INDEX + "," + ARGUMENT,
        "int checksum(int,int,int) " + INDEX + "," + ARGUMENT,
        "boolean connect(int,boolean) " + INDEX + "," + STATE,
        "int fetch(int,int) " + INDEX + "," + STATE,
        "int search(int) " + INDEX + "," + STATE,
        "int queriesFor(int) " + INDEX + "," + ELEMENT,
        "int drop(int) " + INDEX + "," + STATE,
        "int run(int) " + ARGUMENT,
        "int ticksLeft() ",
        "int keep(int) " + ARGUMENT + "," + STATE,
        "int resume(int) " + INDEX + "," + STATE,
        "int named(int) " + ELEMENT,
        "int sized(int) " + ELEMENT,
        "int rename(int,int) " + INDEX + "," + ARGUMENT,
        "int spoil(int,int,int) " + INDEX + "," + ARGUMENT,
        "int discard(int) " + INDEX,
        "int partial(int,int) " + INDEX + "," + ARGUMENT,
        "int wrongBytes() ",
        "int differingParts() ",
        "float progress() ",
        "int event(int,int) " + INDEX + "," + ARGUMENT,
        "int events(int) " + ARGUMENT,
        "int writeMap() ",
        "int writtenByte(int) " + INDEX,
        "int undo() " + STATE};

    public static void main(String[] args) throws Exception {
        constants();
        face();
        insideClasses();
        String code = withoutTexts(source());
        forbidden(code);
        imports(code);
        sizes(code);
        depths(code);
        Check.end();
    }

    private static void constants() {
        Check.equal("NONE", -1, PieceTransfer.NONE);
        Check.equal("SYNTAX_ERROR", -2, PieceTransfer.SYNTAX_ERROR);
        Check.equal("VALUE_ERROR", -3, PieceTransfer.VALUE_ERROR);
        Check.equal("TOO_MANY", -4, PieceTransfer.TOO_MANY);
    }

    private static void face() {
        Class<?> c = PieceTransfer.class;
        Check.equal("public and final", Modifier.PUBLIC | Modifier.FINAL, c.getModifiers());
        Set<String> want = new TreeSet<>(Arrays.asList(FACE));
        Set<String> got = new TreeSet<>();
        for (Method m : c.getDeclaredMethods()) {
            if (!Modifier.isPrivate(m.getModifiers()) && !m.isSynthetic()) {
                Check.equal(m.getName() + " is public", Modifier.PUBLIC, m.getModifiers());
                got.add(m.getReturnType() + " " + m.getName() + "("
                        + names(m.getParameterTypes()) + ") " + names(m.getExceptionTypes()));
            }
        }
        Check.equal("1: the methods", want.toString(), got.toString());
        Constructor<?>[] constructors = c.getDeclaredConstructors();
        Check.equal("1: one constructor", 1, constructors.length);
        Check.equal("1: it is public", Modifier.PUBLIC, constructors[0].getModifiers());
        Check.equal("1: without parameters", 0, constructors[0].getParameterCount());
        List<String> open = new ArrayList<>();
        for (Field f : c.getDeclaredFields()) {
            if (!Modifier.isPrivate(f.getModifiers())) {
                open.add(f.getName());
            }
        }
        Collections.sort(open);
        Check.equal("1: the fields", "[NONE, SYNTAX_ERROR, TOO_MANY, VALUE_ERROR]",
                open.toString());
    }

    private static String names(Class<?>[] types) {
        List<String> names = new ArrayList<>();
        for (Class<?> type : types) {
            names.add(type.getSimpleName());
        }
        return String.join(",", names);
    }

    private static void insideClasses() {
        Set<String> faceNames = new TreeSet<>();
        for (String line : FACE) {
            faceNames.add(line.substring(line.indexOf(' ') + 1, line.indexOf('(')));
        }
        List<Class<?>> all = new ArrayList<>(Arrays.asList(
                PieceTransfer.class.getDeclaredClasses()));
        Check.isTrue("11: some twelve classes", all.size() < 12);
        for (Class<?> inside : all) {
            Check.isTrue("1: private and static: " + inside,
                    Modifier.isPrivate(inside.getModifiers())
                            && Modifier.isStatic(inside.getModifiers()));
            for (Method m : inside.getDeclaredMethods()) {
                Check.isTrue("1: the name " + m, !faceNames.contains(m.getName()));
            }
        }
        all.add(PieceTransfer.class);
        for (Class<?> one : all) {
            int fields = 0;
            for (Field f : one.getDeclaredFields()) {
                if (Modifier.isStatic(f.getModifiers())) {
                    Check.isTrue("5: final: " + f, Modifier.isFinal(f.getModifiers()));
                    Check.isTrue("5: a number: " + f, f.getType() == int.class);
                } else {
                    fields++;
                }
            }
            Check.isTrue("11: some twenty fields in " + one, fields <= 20);
            for (Method m : one.getDeclaredMethods()) {
                Check.isTrue("11: seven parameters of " + m, m.getParameterCount() <= 7);
                Check.isTrue("1: no private method of a public one's name: " + m,
                        Modifier.isPublic(m.getModifiers()) || !faceNames.contains(m.getName()));
            }
        }
    }

    private static String source() throws Exception {
        Path path = Path.of("src/main/java/PieceTransfer.java");
        return new String(Files.readAllBytes(path), StandardCharsets.ISO_8859_1);
    }

    /** The code with empty texts and signs and without comments. */
    private static String withoutTexts(String source) {
        Pattern p = Pattern.compile("\"(\\\\.|[^\"\\\\])*\"|'(\\\\.|[^'\\\\])'|//[^\n]*|/\\*.*?\\*/",
                Pattern.DOTALL);
        Matcher m = p.matcher(source);
        StringBuilder code = new StringBuilder();
        while (m.find()) {
            String found = m.group();
            String lines = found.replaceAll("[^\n]", "");
            m.appendReplacement(code, found.startsWith("\"") ? "\"\"" : found.startsWith("'")
                    ? "' '" : lines);
        }
        m.appendTail(code);
        return code.toString();
    }

    private static void forbidden(String code) {
        String[] patterns = {"->", "::", "\\bsynchronized\\b", "\\bassert\\b", "\\bfinally\\b",
            "\\btry\\b", "\\bcatch\\b", "\\bpackage\\b", "\\bvar\\b", "\\bStringBuffer\\b",
            "\\bSystem\\.(?!arraycopy)", "\\bRandom\\b", "\\bThread\\b", "\\bequals\\b",
            "\\bhashCode\\b", "\\btoString\\b", "Exact\\(", "\"\"\\s*\\+", "\\+\\s*\"\"",
            "\\bprotected\\b", "\\bstatic\\s*\\{", "while\\s*\\(true\\)", "for\\s*\\(;",
            "\\bObject\\b", "\\bthrows?\\s+[A-Za-z, ]*(ArrayIndex|NullPointer|ClassCast)",
            "@", "\\(int\\[\\]\\)", "\\binterface\\b", "\\bvolatile\\b", "\\btransient\\b"};
        for (String pattern : patterns) {
            Matcher m = Pattern.compile(pattern).matcher(code);
            Check.isTrue("no " + pattern, !m.find());
        }
        // divisors are numbers written out, so that none of them can be 0
        Matcher m = Pattern.compile("[/%]\\s*(\\S+)").matcher(code);
        while (m.find()) {
            String divisor = m.group(1);
            boolean known = divisor.matches("([1-9][0-9]*|MOST_[A-Z]+)[;),]*")
                    || divisor.equals("(float)");
            Check.isTrue("7: divisor " + divisor, known);
        }
    }

    private static void imports(String code) {
        Set<String> allowed = Set.of("java.util.ArrayList", "java.util.Arrays",
                "java.util.NoSuchElementException");
        Matcher m = Pattern.compile("import ([^;]+);").matcher(code);
        while (m.find()) {
            Check.isTrue("4: " + m.group(1), allowed.contains(m.group(1)));
        }
    }

    /** A member begins at an indent of 4 or 8 with a brace at the end, and ends at the same. */
    private static void sizes(String code) {
        String[] lines = code.split("\n", -1);
        for (int k = 0; k < lines.length; k++) {
            Check.isTrue("line " + (k + 1) + " is short", lines[k].length() <= 100);
            Matcher m = beginOfMethod(lines[k]);
            if (m != null) {
                int end = endOfMethod(lines, k, m.group(1));
                Check.isTrue("11: line " + (k + 1) + " begins a method of "
                        + (end - k + 1) + " lines", end - k < 60);
            }
        }
    }

    /** Returns null if none begins here. */
    private static Matcher beginOfMethod(String line) {
        Matcher m = Pattern.compile("( {4}| {8})[A-Za-z<][^=(]*?(\\w+)\\(.*").matcher(line);
        return m.matches() && !line.contains("=") && !line.endsWith(";") ? m : null;
    }

    private static int endOfMethod(String[] lines, int begin, String indent) {
        int end = begin;
        while (end < lines.length && !lines[end].equals(indent + "}")) {
            end++;
        }
        return end;
    }

    /** Methods are told apart by their names; those of one name count as one. */
    private static void depths(String code) {
        String[] lines = code.split("\n", -1);
        Map<String, String> bodies = new TreeMap<>();
        for (int k = 0; k < lines.length; k++) {
            Matcher m = beginOfMethod(lines[k]);
            if (m != null) {
                int end = endOfMethod(lines, k, m.group(1));
                String body = String.join("\n", Arrays.asList(lines).subList(k + 1, end));
                bodies.merge(m.group(2), body, String::concat);
            }
        }
        Check.isTrue("11: the methods are found", bodies.size() > FACE.length);
        for (String name : bodies.keySet()) {
            int deep = depth(name, bodies, new TreeSet<>());
            Check.isTrue("11: calls from " + name + " go " + deep + " deep", deep <= 8);
        }
    }

    private static int depth(String name, Map<String, String> bodies, Set<String> open) {
        open.add(name);
        int deepest = 0;
        Matcher m = Pattern.compile("\\b(\\w+)\\(").matcher(bodies.get(name));
        while (m.find()) {
            if (bodies.containsKey(m.group(1)) && !open.contains(m.group(1))) {
                deepest = Math.max(deepest, depth(m.group(1), bodies, open));
            }
        }
        open.remove(name);
        return 1 + deepest;
    }
}
