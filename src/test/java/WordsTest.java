/** Promises 7 to 10: THE WORDS, their DIGEST and their CHANGES. */
final class WordsTest {
    public static void main(String[] args) {
        word();
        wordOfEachLength();
        clearAndDigest();
        fullDigest();
        changes();
        changesOfEachLength();
        raisedBytes();
        changedIsBad();
        changedAtItsEdges();
        Bench.finish("WordsTest");
    }

    private static void word() {
        Bench b = new Bench();
        for (int size = 0; size <= 12; size++) {
            b.x.wipe();
            b.text("abcdefghijkl".substring(0, size));
            boolean fits = size >= 4 && size <= 10;
            Bench.due("word() of " + size, b.x.word(), fits ? 1 : BrotliWords.BAD);
            Bench.due("TAPE behind word() of " + size, b.x.count(1), fits ? 0 : size);
        }
        Bench.due("count(0)", b.x.count(0), 7);
        for (int i = 2; i <= 32; i++) {
            b.x.wipe();
            b.x.bits(i, 32);
            Bench.due("word " + i + " of 4", b.x.word(), i);
        }
        b.x.bits(77, 32);
        Bench.due("word 33 of 4", b.x.word(), BrotliWords.FULL);
        Bench.due("the TAPE stays", b.x.count(1), 4);
        Bench.due("count(0) when full", b.x.count(0), 38);
        Bench.due("number 31", b.x.changed(4, 31, 0, 0), 32);
    }

    // "LENGTHS 4 .. 10, of each 32 at most"; "FULL: 32 (it stays)"; "BAD: no LENGTH (the TAPE stays)".
    private static void wordOfEachLength() {
        for (int length = 4; length <= 10; length++) {
            Bench b = new Bench();
            for (int i = 0; i < 32; i++) {
                b.text(word(length, i));
                Bench.due("word " + i + " of " + length, b.x.word(), i + 1);
                Bench.due("the TAPE is empty", b.x.count(1), 0);
            }
            int digest = b.x.digest();
            b.text(word(length, 40));
            Bench.due("word 32 of " + length, b.x.word(), BrotliWords.FULL);
            Bench.due("the TAPE stays", b.x.count(1), length);
            Bench.due("so do THE WORDS", b.x.count(0) + " " + b.x.digest(), "32 " + digest);
            Bench.due("number 32", b.x.changed(length, 32, 0, -1), BrotliWords.BAD);
            Bench.due("the last", b.changed(length, 31, 0), word(length, 31));
            Bench.due("the first", b.changed(length, 0, 0), word(length, 0));
            Bench.due("another LENGTH has room", new Bench().words("other").x.count(0), 1);
            b.x.clear();
            Bench.due("clear() makes room", b.x.word(), 1);
            Bench.due("the word that stayed", b.changed(length, 0, 0), word(length, 40));
        }
        for (int size : new int[] {0, 1, 3, 11, 20, 2400}) {
            Bench b = new Bench().text("z".repeat(size));
            Bench.due("word() of " + size, b.x.word(), BrotliWords.BAD);
            Bench.due("TAPE of " + size, b.x.count(1) + " " + b.x.count(0), size + " 0");
            Bench.due("its last byte", b.x.spoil(size - 1, 1), size == 0 ? BrotliWords.BAD : 'z' ^ 1);
        }
    }

    private static String word(int length, int number) {
        return ("" + (char) ('A' + number) + "\u0000\u00ff" + (char) (number * 7 & 255) + "xyzxyz").substring(0, length);
    }

    // "for each LENGTH from 4 to 10: h = (33 h) xor how many there are; then for each of its words, each byte".
    private static void fullDigest() {
        String[] words = new String[7 * 15];
        Bench b = new Bench();
        for (int i = 0; i < words.length; i++) {
            words[i] = word(10 - i % 7, i);
            b.words(words[i]);
        }
        Bench.due("count(0)", b.x.count(0), words.length);
        Bench.due("digest of 105 words", b.x.digest(), digestOf(words));
        Bench.due("digest of one", new Bench().words("abcdefghij").x.digest(), digestOf("abcdefghij"));
        Bench two = new Bench().words("aaaa", "bbbb");
        Bench.due("digest of two", two.x.digest(), digestOf("aaaa", "bbbb"));
        Bench.due("their order counts", new Bench().words("bbbb", "aaaa").x.digest(), digestOf("bbbb", "aaaa"));
        Bench.due("clear", two.x.clear() + " " + two.x.clear(), "2 0");
    }

    private static void clearAndDigest() {
        Bench b = new Bench();
        Bench.due("digest of none", b.x.digest(), 40293);
        Bench.due("clear of none", b.x.clear(), 0);
        b.words("abcdefghij", "abcd", "\u00ff\u0000\u0001\u0002");
        Bench.due("digest", b.x.digest(), digestOf("abcd", "\u00ff\u0000\u0001\u0002", "abcdefghij"));
        Bench.due("clear", b.x.clear(), 3);
        Bench.due("count(0) behind clear", b.x.count(0), 0);
        Bench.due("digest behind clear", b.x.digest(), 40293);
        Bench.due("changed behind clear", b.x.changed(4, 0, 0, 0), BrotliWords.BAD);
        b.words("wxyz");
        Bench.due("a word behind clear", b.changed(4, 0, 0), "wxyz");
    }

    /** Of words that stand in the order of their LENGTHS. */
    private static int digestOf(String... words) {
        long h = 5381;
        for (int length = 4; length <= 10; length++) {
            int many = 0;
            for (String word : words) {
                many += word.length() == length ? 1 : 0;
            }
            h = (33 * h ^ many) % 65536;
            for (String word : words) {
                for (int i = 0; i < length && word.length() == length; i++) {
                    h = (33 * h ^ word.charAt(i)) % 65536;
                }
            }
        }
        return (int) h;
    }

    private static void changes() {
        String[] due = {
            "abcd", "Abcd", "ABCD", "bcd", "abc", "ab",
            "abcd ", "Abcd ", "ABCD ", "bcd ", "abc ", "ab ",
            " abcd", " Abcd", " ABCD", " bcd", " abc", " ab",
            "abcd, ", "Abcd, ", "ABCD, ", "bcd, ", "abc, ", "ab, "};
        Bench b = new Bench().words("abcd");
        for (int change = 0; change < 24; change++) {
            Bench.due("change " + change, b.changed(4, 0, change), due[change]);
            Bench.due("size " + change, b.x.changed(4, 0, change, -1), due[change].length());
            Bench.due("behind " + change, b.x.changed(4, 0, change, due[change].length()), BrotliWords.BAD);
        }
        Bench edges = new Bench().words("`az{A\u00e1z");
        Bench.due("raised edges", edges.changed(7, 0, 2), "`AZ{A\u00e1Z");
        Bench.due("no letter to raise", edges.changed(7, 0, 1), "`az{A\u00e1z");
        Bench long10 = new Bench().words("abcdefghij");
        Bench.due("twelve bytes", long10.changed(10, 0, 18), "abcdefghij, ");
    }

    // "3 without the first, 4 the last, 5 the last two; then AROUND".
    private static void changesOfEachLength() {
        for (int length = 4; length <= 10; length++) {
            String word = "lmnopqrstu".substring(0, length);
            Bench b = new Bench().words(word);
            String[] cores = {word, "L" + word.substring(1), word.toUpperCase(), word.substring(1),
                word.substring(0, length - 1), word.substring(0, length - 2)};
            for (int change = 0; change < 24; change++) {
                String core = cores[change % 6];
                String due = new String[] {core, core + " ", " " + core, core + ", "}[change / 6];
                Bench.due("CHANGE " + change + " of " + length, b.changed(length, 0, change), due);
                Bench.due("behind it", b.x.changed(length, 0, change, due.length()), BrotliWords.BAD);
                b = change % 8 == 7 ? new Bench().words(word) : b;
            }
        }
    }

    // "1 its first byte, 2 all bytes, if a .. z, 32 less"
    private static void raisedBytes() {
        for (int v = 0; v < 256; v++) {
            Bench b = new Bench().words((char) v + "--" + (char) v);
            int due = v >= 97 && v <= 122 ? v - 32 : v;
            Bench.due("first byte " + v, b.x.changed(4, 0, 1, 0) + " " + b.x.changed(4, 0, 1, 3), due + " " + v);
            Bench.due("all bytes " + v, b.x.changed(4, 0, 2, 0) + " " + b.x.changed(4, 0, 2, 3), due + " " + due);
            Bench.due("no other CHANGE " + v, b.x.changed(4, 0, 0, 0) + " " + b.x.changed(4, 0, 3, 2), v + " " + v);
        }
    }

    // "i = - 1: how many"; each argument's first and last, and the ones beside them.
    private static void changedAtItsEdges() {
        Bench b = new Bench().words("abcd", "efgh", "ijklmnopqr");
        Bench.due("changed(4, 0, 0, 0)", b.x.changed(4, 0, 0, 0), 'a');
        Bench.due("changed(4, 1, 23, -1)", b.x.changed(4, 1, 23, -1), 4);
        Bench.due("changed(4, 1, 23, 3)", b.x.changed(4, 1, 23, 3), ' ');
        Bench.due("changed(4, 1, 23, 4)", b.x.changed(4, 1, 23, 4), BrotliWords.BAD);
        Bench.due("changed(10, 0, 18, 11)", b.x.changed(10, 0, 18, 11), ' ');
        Bench.due("changed(10, 0, 18, 12)", b.x.changed(10, 0, 18, 12), BrotliWords.BAD);
        Bench.due("changed(10, 0, 18, -1)", b.x.changed(10, 0, 18, -1), 12);
        Bench.due("changed(10, 0, 5, 7)", b.x.changed(10, 0, 5, 7), 'p');
        Bench.due("changed(10, 0, 5, 8)", b.x.changed(10, 0, 5, 8), BrotliWords.BAD);
        Bench.due("changed(10, 1, 0, -1)", b.x.changed(10, 1, 0, -1), BrotliWords.BAD);
        Bench.due("changed(10, -1, 0, -1)", b.x.changed(10, -1, 0, -1), BrotliWords.BAD);
        Bench.due("changed(9, 0, 0, -1)", b.x.changed(9, 0, 0, -1), BrotliWords.BAD);
        Bench.due("changed(11, 0, 0, -1)", b.x.changed(11, 0, 0, -1), BrotliWords.BAD);
        Bench.due("changed(3, 0, 0, -1)", b.x.changed(3, 0, 0, -1), BrotliWords.BAD);
        Bench.due("changed(4, 0, 24, -1)", b.x.changed(4, 0, 24, -1), BrotliWords.BAD);
        Bench.due("changed(4, 0, -1, -1)", b.x.changed(4, 0, -1, -1), BrotliWords.BAD);
        Bench.due("changed(4, 0, 0, MIN)", b.x.changed(4, 0, 0, Integer.MIN_VALUE), BrotliWords.BAD);
        Bench.due("changed(4, 0, MIN, 0)", b.x.changed(4, 0, Integer.MIN_VALUE, 0), BrotliWords.BAD);
        Bench.due("changed(4, MIN, 0, 0)", b.x.changed(4, Integer.MIN_VALUE, 0, 0), BrotliWords.BAD);
        Bench.due("changed(MAX, 0, 0, 0)", b.x.changed(Integer.MAX_VALUE, 0, 0, 0), BrotliWords.BAD);
    }

    private static void changedIsBad() {
        Bench b = new Bench().words("abcd", "efgh");
        int[][] calls = {
            {3, 0, 0, 0}, {11, 0, 0, 0}, {5, 0, 0, 0}, {4, -1, 0, 0}, {4, 2, 0, 0}, {4, 0, -1, 0},
            {4, 0, 24, 0}, {4, 0, 0, -2}, {4, 0, 0, 4}, {4, 2, 0, -1}, {-2147483648, 0, 0, 0},
            {4, 2147483647, 0, 0}, {4, 0, 2147483647, 0}, {4, 0, 0, 2147483647}};
        for (int[] c : calls) {
            Bench.due("changed" + java.util.Arrays.toString(c), b.x.changed(c[0], c[1], c[2], c[3]), BrotliWords.BAD);
        }
        Bench.due("changed(4, 1, 0, 3)", b.x.changed(4, 1, 0, 3), 'h');
    }
}
