/** What the tests share: an object to ask, answers that are due, and bits that are written by hand. */
final class Bench {
    private static int asked = 0;
    private static int wrong = 0;

    final BrotliWords x = new BrotliWords();

    static void due(String call, long got, long want) {
        asked++;
        if (got != want) {
            wrong++;
            System.out.println(call + " answered " + got + ", due is " + want);
        }
    }

    static void due(String call, String got, String want) {
        asked++;
        if (!got.equals(want)) {
            wrong++;
            System.out.println(call + " answered <" + got + ">, due is <" + want + ">");
        }
    }

    static void finish(String name) {
        System.out.println(name + ": " + asked + " answers, " + wrong + " not as due");
        if (wrong != 0) {
            System.exit(1);
        }
    }

    /** The characters of a text come behind the TAPE as bytes. */
    Bench text(String text) {
        for (int at = 0; at < text.length(); at += 20) {
            int[] v = new int[5];
            for (int i = 0; i < 20; i++) {
                v[i / 4] = v[i / 4] << 8 | (at + i < text.length() ? text.charAt(at + i) : 0xEE);
            }
            x.feed(v[0], v[1], v[2], v[3], v[4]);
            if (text.length() - at < 20) {
                x.end(text.length() - at);
            }
        }
        return this;
    }

    Bench words(String... words) {
        for (String word : words) {
            text(word);
            x.word();
        }
        return this;
    }

    /** A stream that begins with what this object asks for: DIGEST, SPAN 16. */
    Stream stream() {
        return new Stream().put(x.digest(), 16).put(0, 1);
    }

    /** A stream behind a PART of eight bytes, moved by 0 .. 7 bits: any bit behind it can be a byte's last. */
    Stream lead(int by) {
        return stream().coded(false, 8).plain().literals('a', 'b', 'c').commands(184).distances(0).row("0")
            .row("0".repeat(8 - by)).row("10".repeat(by));
    }

    /** Puts a stream on the TAPE and opens it. */
    int open(Stream stream) {
        x.wipe();
        for (int at = 0; at < stream.size(); at += 32) {
            int n = Math.min(32, stream.size() - at);
            x.bits(stream.number(at, n), n);
        }
        return x.open();
    }

    /** Opens a stream in which a RULE is broken by the last of its bits; more bits stand behind it. */
    void broken(String what, Stream stream, int rule) {
        int bits = stream.size();
        due(what, open(stream.put(0x55555555, 32).put(0x55555555, 32)), -10 - rule);
        due(what + ", read()", x.read(), bits);
        due(what + ", count(2)", x.count(2), 0);
        due(what + ", count(1)", x.count(1), 0);
    }

    String made() {
        StringBuilder made = new StringBuilder();
        for (int i = 0; i < x.count(2); i++) {
            made.append((char) x.out(i));
        }
        return made.toString();
    }

    String ring() {
        return x.ring(0) + " " + x.ring(1) + " " + x.ring(2) + " " + x.ring(3);
    }

    String part(int i) {
        StringBuilder facts = new StringBuilder();
        for (int what = 0; what < 12; what++) {
            facts.append(what == 0 ? "" : " ").append(x.part(i, what));
        }
        return facts.toString();
    }

    String command(int i) {
        return x.command(i, 0) + " " + x.command(i, 1) + " " + x.command(i, 2) + " " + x.command(i, 3);
    }

    String changed(int length, int number, int change) {
        StringBuilder word = new StringBuilder();
        for (int i = 0; i < x.changed(length, number, change, -1); i++) {
            word.append((char) x.changed(length, number, change, i));
        }
        return word.toString();
    }

    /** Bits in the order in which they are read. */
    static final class Stream {
        private final StringBuilder bits = new StringBuilder();

        int size() {
            return bits.length();
        }

        int number(int at, int n) {
            int v = 0;
            for (int i = 0; i < n; i++) {
                v |= (bits.charAt(at + i) - '0') << i;
            }
            return v;
        }

        /** As OUT would be: characters 0 .. 255, 0s to a whole byte. */
        String bytes() {
            StringBuilder bytes = new StringBuilder();
            for (int at = 0; at < size(); at += 8) {
                bytes.append((char) number(at, Math.min(8, size() - at)));
            }
            return bytes.toString();
        }

        Stream cut(int n) {
            Stream cut = new Stream();
            cut.bits.append(bits, 0, n);
            return cut;
        }

        Stream put(long v, int n) {
            for (int i = 0; i < n; i++) {
                bits.append((char) ('0' + (v >> i & 1)));
            }
            return this;
        }

        /** Bits as they are written here; blanks are for the reader alone. */
        Stream row(String row) {
            bits.append(row.replace(" ", ""));
            return this;
        }

        Stream fill() {
            while (size() % 8 != 0) {
                bits.append('0');
            }
            return this;
        }

        Stream empty() {
            return row("11").fill();
        }

        Stream passedOver(int bytes, int s) {
            row("0 11 0").put(s, 2).put(bytes - 1, 8 * s).fill();
            return put(0, 8 * bytes);
        }

        Stream raw(String text) {
            row("0 00").put(text.length() - 1, 16).row("1").fill();
            for (int i = 0; i < text.length(); i++) {
                put(text.charAt(i), 8);
            }
            return this;
        }

        /** A CODED PART up to its LENGTH, the bit RAW. */
        Stream coded(boolean last, int length) {
            return row(last ? "10 00" : "0 00").put(length - 1, 16).row(last ? "" : "0");
        }

        /** KINDS 1, POSTFIX 0, DIRECT 0, MODE 0, TREES 1: nothing but 0s. */
        Stream plain() {
            return put(0, 13);
        }

        /** A CODE in the first way, of signs that are told in so many bits. */
        Stream told(int width, int... signs) {
            row("10").put(signs.length - 1, 2);
            for (int sign : signs) {
                put(sign, width);
            }
            return this;
        }

        Stream literals(int... signs) {
            return told(8, signs);
        }

        Stream commands(int... signs) {
            return told(10, signs);
        }

        Stream distances(int... signs) {
            return told(6, signs);
        }
    }
}
