import java.util.ArrayList;
import java.util.List;
import java.util.Random;

/** Promises 1 to 21: calls by chance, with numbers far beyond what is allowed, beside a plain TAPE and WORDS. */
final class AnyCallTest {
    private static final int[] ODD = {
        Integer.MIN_VALUE, Integer.MIN_VALUE + 1, -65536, -33, -2, -1, 0, 1, 2, 3, 4, 5, 7, 8, 10, 11, 12, 20, 21, 23, 24,
        31, 32, 33, 59, 60, 63, 64, 255, 256, 703, 704, 1999, 2000, 2399, 2400, 3000, 65536, Integer.MAX_VALUE};

    private final Random chance;
    private final BrotliWords x = new BrotliWords();
    private List<Integer> tape = new ArrayList<>();
    // Where the next bit goes in the last byte; 0 if it goes to a new one.
    private int bit = 0;
    private final List<List<String>> words = new ArrayList<>();
    private int read = 0;

    private AnyCallTest(int seed) {
        chance = new Random(seed);
        for (int i = 0; i <= 10; i++) {
            words.add(new ArrayList<>());
        }
    }

    public static void main(String[] args) {
        // An object is used for at most 512 calls, and some of these make a dozen.
        for (int seed = 0; seed < 1500; seed++) {
            AnyCallTest run = new AnyCallTest(seed);
            for (int i = 0; i < 40; i++) {
                run.call("run " + seed + ", call " + i);
            }
        }
        Bench.finish("AnyCallTest");
    }

    private int odd() {
        int v = ODD[chance.nextInt(ODD.length)];
        return chance.nextInt(4) == 0 ? chance.nextInt() : chance.nextBoolean() ? v : chance.nextInt(40) - 2;
    }

    private void call(String what) {
        switch (chance.nextInt(14)) {
            case 0, 1 -> feed(what);
            case 2, 3 -> bits(what);
            case 4 -> end(what);
            case 5 -> spoil(what);
            case 6 -> word(what);
            case 7 -> pack(what);
            case 8 -> open(what);
            case 9 -> pass(what);
            case 10 -> rare(what);
            default -> asks(what);
        }
        Bench.due(what + ": count(1)", x.count(1), tape.size());
    }

    private void feed(String what) {
        int[] v = {chance.nextInt(), odd(), 0x61626364, odd(), 0x20202020};
        boolean fits = tape.size() <= 2380;
        for (int i = 0; i < 20 && fits; i++) {
            tape.add(v[i / 4] >>> 24 - i % 4 * 8 & 255);
        }
        bit = fits ? 0 : bit;
        Bench.due(what + ": feed", x.feed(v[0], v[1], v[2], v[3], v[4]), fits ? tape.size() : BrotliWords.FULL);
    }

    private void bits(String what) {
        int v = chance.nextInt();
        int n = chance.nextBoolean() ? 1 + chance.nextInt(32) : odd();
        boolean bad = n < 1 || n > 32;
        int before = 8 * tape.size() - (bit == 0 ? 0 : 8 - bit);
        int due = bad ? BrotliWords.BAD : before + n > 19200 ? BrotliWords.FULL : before + n;
        for (int i = 0; i < n && due > 0; i++) {
            if (bit == 0) {
                tape.add(0);
            }
            int last = tape.size() - 1;
            tape.set(last, tape.get(last) | (v >>> i & 1) << bit);
            bit = (bit + 1) % 8;
        }
        Bench.due(what + ": bits(.., " + n + ")", x.bits(v, n), due);
    }

    private void end(String what) {
        int n = odd();
        boolean bad = n < 0 || n > 20 || tape.size() < 20;
        if (!bad) {
            tape = new ArrayList<>(tape.subList(0, tape.size() - 20 + n));
            bit = 0;
        }
        Bench.due(what + ": end(" + n + ")", x.end(n), bad ? BrotliWords.BAD : tape.size());
    }

    private void spoil(String what) {
        int i = chance.nextBoolean() && !tape.isEmpty() ? chance.nextInt(tape.size()) : odd();
        int mask = chance.nextBoolean() ? 1 + chance.nextInt(255) : odd();
        int due = BrotliWords.BAD;
        if (i >= 0 && i < tape.size() && mask > 0 && mask < 256) {
            due = tape.get(i) ^ mask;
            tape.set(i, due);
            bit = 0;
        }
        Bench.due(what + ": spoil(" + i + ", " + mask + ")", x.spoil(i, mask), due);
    }

    private void word(String what) {
        if (chance.nextBoolean()) {
            tape.clear();
            bit = 0;
            x.wipe();
            for (int i = chance.nextInt(13); i > 0; i--) {
                tape.add(97 + chance.nextInt(3));
                x.bits(tape.get(tape.size() - 1), 8);
            }
        }
        int length = tape.size();
        int due = BrotliWords.BAD;
        if (length >= 4 && length <= 10) {
            due = words.get(length).size() == 32 ? BrotliWords.FULL : words.get(length).size() + 1;
        }
        if (due > 0) {
            words.get(length).add(string());
            tape.clear();
            bit = 0;
        }
        Bench.due(what + ": word()", x.word(), due);
    }

    private String string() {
        StringBuilder text = new StringBuilder();
        for (int b : tape) {
            text.append((char) b);
        }
        return text.toString();
    }

    private void pack(String what) {
        int level = chance.nextInt(5) - 1;
        if (level < 0 || level > 2 || tape.size() > 2000) {
            int out = x.count(2);
            Bench.due(what + ": pack(" + level + ")", x.pack(level), BrotliWords.BAD);
            Bench.due(what + ": OUT stays", x.count(2), out);
            return;
        }
        String text = string();
        int size = x.pack(level);
        Bench.due(what + ": pack(" + level + ")", size, x.count(2));
        tape.clear();
        bit = 0;
        if (chance.nextBoolean() && size <= 2400) {
            x.pass();
            Bench.due(what + ": open() of what was packed", x.open(), text.length());
            Bench.due(what + ": read() of it", x.read(), 8 * size);
            read = 8 * size;
            for (int i = 0; i < 5; i++) {
                int at = chance.nextInt(text.length() + 1);
                Bench.due(what + ": out(" + at + ")", x.out(at), at < text.length() ? text.charAt(at) : BrotliWords.BAD);
            }
        }
    }

    /** Behind a right DIGEST any bits; where most are 0, more of them are read before a RULE is broken. */
    private void putStream() {
        x.wipe();
        tape.clear();
        bit = 0;
        int[] v = new int[2 + chance.nextInt(60)];
        v[0] = digest() | (chance.nextInt(4) == 0 ? chance.nextInt() << 16 : chance.nextInt(8) << 20);
        int zeros = chance.nextInt(4);
        for (int i = 1; i < v.length; i++) {
            v[i] = chance.nextInt();
            for (int j = 0; j < zeros; j++) {
                v[i] &= chance.nextInt();
            }
        }
        for (int i = 0; i < v.length; i++) {
            x.bits(v[i], 32);
            for (int j = 0; j < 4; j++) {
                tape.add(v[i] >>> 8 * j & 255);
            }
        }
    }

    private void open(String what) {
        if (chance.nextInt(3) > 0) {
            putStream();
        }
        int had = 8 * tape.size();
        int answer = x.open();
        boolean ok = answer >= 0 && answer <= 3000 || answer <= -11 && answer >= -27;
        Bench.due(what + ": open()", ok ? 1 : 0, 1);
        Bench.due(what + ": OUT", x.count(2), Math.max(0, answer));
        read = x.read();
        boolean all = answer >= 0 || answer == -11;
        Bench.due(what + ": read()", all ? read : read <= had ? 0 : 1, all ? had : 0);
        tape.clear();
        bit = 0;
    }

    private void pass(String what) {
        int size = x.count(2);
        Bench.due(what + ": pass()", x.pass(), size <= 2400 ? size : BrotliWords.FULL);
        if (size > 2400) {
            return;
        }
        tape.clear();
        bit = 0;
        if (size > 40) {
            x.wipe();
            return;
        }
        for (int i = 0; i < size; i++) {
            tape.add(x.out(i));
        }
    }

    private void rare(String what) {
        int many = 0;
        for (List<String> some : words) {
            many += some.size();
        }
        Bench.due(what + ": count(0)", x.count(0), many);
        if (chance.nextInt(6) == 0) {
            Bench.due(what + ": clear()", x.clear(), many);
            for (List<String> some : words) {
                some.clear();
            }
        } else if (chance.nextInt(3) == 0) {
            Bench.due(what + ": wipe()", x.wipe(), tape.size());
            tape.clear();
            bit = 0;
        } else {
            Bench.due(what + ": digest()", x.digest(), digest());
        }
    }

    private int digest() {
        int h = 5381;
        for (int length = 4; length <= 10; length++) {
            h = 33 * h ^ words.get(length).size();
            for (String word : words.get(length)) {
                for (int i = 0; i < length; i++) {
                    h = 33 * h ^ word.charAt(i);
                }
            }
        }
        return h & 0xFFFF;
    }

    private void asks(String what) {
        int a = odd();
        int b = odd();
        int c = odd();
        int d = odd();
        String due = "";
        boolean word = a >= 4 && a <= 10 && b >= 0 && b < words.get(a).size() && c >= 0 && c < 24;
        if (word) {
            due = PlainPacker.changed(words.get(a).get(b), c);
        }
        int changed = !word || d < -1 || d >= due.length() ? BrotliWords.BAD : d == -1 ? due.length() : due.charAt(d);
        Bench.due(what + ": changed(" + a + ", " + b + ", " + c + ", " + d + ")", x.changed(a, b, c, d), changed);
        Bench.due(what + ": read()", x.read(), read);
        int parts = Math.min(60, x.count(3));
        Bench.due(what + ": part(" + a + ", " + b + ")", x.part(a, b) == BrotliWords.BAD ? 1 : 0,
            a < 0 || a >= parts || b < 0 || b > 11 ? 1 : 0);
        Bench.due(what + ": ring(" + a + ")", x.ring(a) == BrotliWords.BAD ? 1 : 0, a < 0 || a > 3 ? 1 : 0);
        Bench.due(what + ": out(" + a + ")", x.out(a) == BrotliWords.BAD ? 1 : 0, a < 0 || a >= x.count(2) ? 1 : 0);
        Bench.due(what + ": command(" + a + ", " + b + ")", x.command(a, b) == BrotliWords.BAD ? 1 : 0,
            a < 0 || a >= x.count(4) || b < 0 || b > 3 ? 1 : 0);
        Bench.due(what + ": count(" + a + ")", x.count(a) == BrotliWords.BAD ? 1 : 0, a < 0 || a > 4 ? 1 : 0);
        boolean shown = x.map(0, 0) != BrotliWords.BAD;
        Bench.due(what + ": map(" + a + ", " + b + ")", !shown && x.map(a, b) != BrotliWords.BAD ? 1 : 0, 0);
        Bench.due(what + ": length(" + a + ", " + b + ", " + c + ")", !shown && x.length(a, b, c) != BrotliWords.BAD ? 1 : 0, 0);
    }
}
