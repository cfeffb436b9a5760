import java.io.IOException;
import java.nio.ByteBuffer;
import java.nio.file.Files;
import java.nio.file.Path;
import java.util.Arrays;
import java.util.List;

/** The calls that README.md shows have the answers that it tells. */
public final class ReadmeTest {
    private static List<String> lines;

    public static void main(String[] args) throws IOException {
        lines = Files.readAllLines(Path.of("README.md"));
        PieceTransfer x = new PieceTransfer();
        shows("load(x, \"file 12 0 pieces 4 2; flaw 9 1; blame 1;\");",
                load(x, "file 12 0 pieces 4 2; flaw 9 1; blame 1;"));
        shows("x.fetch(0, 0);", x.fetch(0, 0));
        shows("x.fetch(1, 2);", x.fetch(1, 2));
        shows("x.piece(2, 6);", x.piece(2, 6));
        shows("x.search(2);", x.search(2));
        shows("x.source(1, 1);", x.source(1, 1));
        shows("x.keep(7);", x.keep(7));
        shows("x.resume(0);", x.resume(0));
        shows("x.run(300);", x.run(300));
        shows("x.progress();", x.progress());
        shows("x.event(0, 0);", x.event(0, 0));
        shows("x.undo();", x.undo());
        shows("x.writeMap();", x.writeMap());
        Check.equal("the map", "G..", Check.map(x));
        Check.equal("the calls shown", shown(), Check.checks() - 1);
        Check.end();
    }

    /** As README.md has it. */
    private static int load(PieceTransfer x, String text) {
        byte[] bytes = Arrays.copyOf(text.getBytes(), (text.length() + 19) / 20 * 20);
        ByteBuffer four = ByteBuffer.wrap(bytes);
        while (four.hasRemaining()) {
            x.append(four.getInt(), four.getInt(), four.getInt(), four.getInt(), four.getInt());
        }
        return x.load(text.length());
    }

    private static void shows(String call, Object answer) {
        for (String line : lines) {
            if (line.startsWith(call)) {
                String told = line.substring(line.indexOf("//") + 2).trim();
                Check.equal(call, told.split("[ :;,]")[0], String.valueOf(answer));
                return;
            }
        }
        Check.complain(call + " is not in README.md");
    }

    private static int shown() {
        int found = 0;
        for (String line : lines) {
            if (line.matches("(x\\.|load\\().*//.*")) {
                found++;
            }
        }
        return found;
    }
}
