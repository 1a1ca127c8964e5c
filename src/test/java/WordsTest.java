/** Promises 7 to 10: THE WORDS, their DIGEST and their CHANGES. */
final class WordsTest {
    public static void main(String[] args) {
        word();
        clearAndDigest();
        changes();
        changedIsBad();
        Bench.finish("WordsTest");
    }

    private static void word() {
        Bench b = new Bench();
        for (int size = 0; size <= 12; size++) {
            b.x.wipe();
            b.text("abcdefghijkl".substring(0, size));
            boolean fits = size >= 4 && size <= 10;
            Bench.due("word() of " + size, b.x.word(), fits ? 1 : BrotliWords.BAD);
            Bench.due("TAPE behind word() of " + size, b.x.count(1), fits ? 0 : size);
        }
        Bench.due("count(0)", b.x.count(0), 7);
        for (int i = 2; i <= 32; i++) {
            b.x.wipe();
            b.x.bits(i, 32);
            Bench.due("word " + i + " of 4", b.x.word(), i);
        }
        b.x.bits(77, 32);
        Bench.due("word 33 of 4", b.x.word(), BrotliWords.FULL);
        Bench.due("the TAPE stays", b.x.count(1), 4);
        Bench.due("count(0) when full", b.x.count(0), 38);
        Bench.due("number 31", b.x.changed(4, 31, 0, 0), 32);
    }

    private static void clearAndDigest() {
        Bench b = new Bench();
        Bench.due("digest of none", b.x.digest(), 40293);
        Bench.due("clear of none", b.x.clear(), 0);
        b.words("abcdefghij", "abcd", "\u00ff\u0000\u0001\u0002");
        Bench.due("digest", b.x.digest(), digestOf("abcd", "\u00ff\u0000\u0001\u0002", "abcdefghij"));
        Bench.due("clear", b.x.clear(), 3);
        Bench.due("count(0) behind clear", b.x.count(0), 0);
        Bench.due("digest behind clear", b.x.digest(), 40293);
        Bench.due("changed behind clear", b.x.changed(4, 0, 0, 0), BrotliWords.BAD);
        b.words("wxyz");
        Bench.due("a word behind clear", b.changed(4, 0, 0), "wxyz");
    }

    /** Of words that stand in the order of their LENGTHS. */
    private static int digestOf(String... words) {
        long h = 5381;
        for (int length = 4; length <= 10; length++) {
            int many = 0;
            for (String word : words) {
                many += word.length() == length ? 1 : 0;
            }
            h = (33 * h ^ many) % 65536;
            for (String word : words) {
                for (int i = 0; i < length && word.length() == length; i++) {
                    h = (33 * h ^ word.charAt(i)) % 65536;
                }
            }
        }
        return (int) h;
    }

    private static void changes() {
        String[] due = {
            "abcd", "Abcd", "ABCD", "bcd", "abc", "ab",
            "abcd ", "Abcd ", "ABCD ", "bcd ", "abc ", "ab ",
            " abcd", " Abcd", " ABCD", " bcd", " abc", " ab",
            "abcd, ", "Abcd, ", "ABCD, ", "bcd, ", "abc, ", "ab, "};
        Bench b = new Bench().words("abcd");
        for (int change = 0; change < 24; change++) {
            Bench.due("change " + change, b.changed(4, 0, change), due[change]);
            Bench.due("size " + change, b.x.changed(4, 0, change, -1), due[change].length());
            Bench.due("behind " + change, b.x.changed(4, 0, change, due[change].length()), BrotliWords.BAD);
        }
        Bench edges = new Bench().words("`az{A\u00e1z");
        Bench.due("raised edges", edges.changed(7, 0, 2), "`AZ{A\u00e1Z");
        Bench.due("no letter to raise", edges.changed(7, 0, 1), "`az{A\u00e1z");
        Bench long10 = new Bench().words("abcdefghij");
        Bench.due("twelve bytes", long10.changed(10, 0, 18), "abcdefghij, ");
    }

    private static void changedIsBad() {
        Bench b = new Bench().words("abcd", "efgh");
        int[][] calls = {
            {3, 0, 0, 0}, {11, 0, 0, 0}, {5, 0, 0, 0}, {4, -1, 0, 0}, {4, 2, 0, 0}, {4, 0, -1, 0},
            {4, 0, 24, 0}, {4, 0, 0, -2}, {4, 0, 0, 4}, {4, 2, 0, -1}, {-2147483648, 0, 0, 0},
            {4, 2147483647, 0, 0}, {4, 0, 2147483647, 0}, {4, 0, 0, 2147483647}};
        for (int[] c : calls) {
            Bench.due("changed" + java.util.Arrays.toString(c), b.x.changed(c[0], c[1], c[2], c[3]), BrotliWords.BAD);
        }
        Bench.due("changed(4, 1, 0, 3)", b.x.changed(4, 1, 0, 3), 'h');
    }
}
