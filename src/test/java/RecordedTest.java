import java.io.IOException;
import java.nio.file.Files;
import java.nio.file.Path;
import java.util.List;

/**
 * All promises: runs of calls by chance (texts that are packed, spoiled and opened; streams with KINDS, TREES,
 * MAPS and broken RULES), with the answers of a second program. Both were written by the same reader of the
 * document: this finds slips, not what was misread.
 */
final class RecordedTest {
    public static void main(String[] args) throws IOException {
        List<String> lines = Files.readAllLines(Path.of("src/test/recorded.txt"));
        BrotliWords x = new BrotliWords();
        int run = 0;
        for (String line : lines) {
            String[] words = line.split(" ");
            if (words[0].equals("new")) {
                x = new BrotliWords();
                run++;
            } else {
                int[] v = new int[5];
                for (int i = 1; i < words.length - 2; i++) {
                    v[i - 1] = Integer.parseInt(words[i]);
                }
                Bench.due("run " + run + ": " + line, call(x, words[0], v), Integer.parseInt(words[words.length - 1]));
            }
        }
        Bench.due("runs", run > 50 ? 1 : 0, 1);
        Bench.finish("RecordedTest");
    }

    private static int call(BrotliWords x, String name, int[] v) {
        switch (name) {
            case "feed": return x.feed(v[0], v[1], v[2], v[3], v[4]);
            case "end": return x.end(v[0]);
            case "bits": return x.bits(v[0], v[1]);
            case "spoil": return x.spoil(v[0], v[1]);
            case "wipe": return x.wipe();
            case "word": return x.word();
            case "clear": return x.clear();
            case "digest": return x.digest();
            case "changed": return x.changed(v[0], v[1], v[2], v[3]);
            case "pack": return x.pack(v[0]);
            case "open": return x.open();
            case "pass": return x.pass();
            case "out": return x.out(v[0]);
            case "read": return x.read();
            case "part": return x.part(v[0], v[1]);
            case "ring": return x.ring(v[0]);
            case "map": return x.map(v[0], v[1]);
            case "length": return x.length(v[0], v[1], v[2]);
            case "command": return x.command(v[0], v[1]);
            case "count": return x.count(v[0]);
            default: throw new IllegalArgumentException(name);
        }
    }
}
