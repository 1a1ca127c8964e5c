/** Promises 11, 20 and 21: packing by each LEVEL, bit by bit, and the commands that were chosen. */
final class PackTest {
    public static void main(String[] args) {
        refused();
        levelNone();
        nothing();
        oneLiteral();
        fewSigns();
        manySigns();
        loneMark();
        longCodeOfMarks();
        copies();
        ringSigns();
        wordChoices();
        longest();
        cheapest();
        codesOfNumbers();
        commandsStay();
        backAndForth();
        Bench.finish("PackTest");
    }

    private static void packs(String what, Bench b, int level, Bench.Stream due) {
        int size = b.x.pack(level);
        Bench.due(what, b.made(), due.bytes());
        Bench.due(what + ", size", size, due.bytes().length());
        Bench.due(what + ", TAPE", b.x.count(1), 0);
        Bench.due(what + ", OUT", b.x.count(2), due.bytes().length());
    }

    private static void refused() {
        Bench b = new Bench().text("abc");
        Bench.due("pack(-1)", b.x.pack(-1), BrotliWords.BAD);
        Bench.due("pack(3)", b.x.pack(3), BrotliWords.BAD);
        Bench.due("the TAPE stays", b.x.count(1), 3);
        Bench full = new Bench().text("x".repeat(2001));
        for (int level = 0; level < 3; level++) {
            Bench.due("pack(" + level + ") of 2,001", full.x.pack(level), BrotliWords.BAD);
        }
        Bench.due("all 2,001 stay", full.x.count(1), 2001);
        full.x.wipe();
        Bench.due("pack(0) of 2,000", full.text("x".repeat(2000)).x.pack(0), 2006);
        Bench.due("pack(1) of 2,000", full.text("x".repeat(2000)).x.pack(1) < 40 ? 1 : 0, 1);
    }

    private static void levelNone() {
        Bench b = new Bench().words("abcd").text("abcd\u00ff");
        packs("LEVEL 0", b, 0, b.stream().raw("abcd\u00ff").empty());
        Bench.due("LEVEL 0, count(4)", b.x.count(4), 0);
        Bench.due("LEVEL 0, command", b.x.command(0, 0), BrotliWords.BAD);
    }

    private static void nothing() {
        for (int level = 0; level < 3; level++) {
            Bench b = new Bench();
            packs("nothing by " + level, b, level, b.stream().empty());
            Bench.due("nothing by " + level + ", count(4)", b.x.count(4), 0);
        }
    }

    private static void oneLiteral() {
        for (int level = 1; level < 3; level++) {
            Bench b = new Bench().text("a");
            packs("a by " + level, b, level, b.stream().coded(true, 1).plain().literals('a').commands(136).distances(0));
            Bench.due("a by " + level + ", count(4)", b.x.count(4), 1);
            Bench.due("a by " + level + ", command", b.command(0), "1 0 0 136");
        }
    }

    private static void fewSigns() {
        Bench b = new Bench().text("ba");
        packs("two", b, 1, b.stream().coded(true, 2).plain().literals('a', 'b').commands(144).distances(0).row("1 0"));
        b.text("caabaa");
        packs("three", b, 1, b.stream().coded(true, 6).plain().literals('a', 'b', 'c').commands(176).distances(0)
            .row("0").row("11 0 0 10 0 0"));
        b.text("dcba");
        packs("four", b, 1, b.stream().coded(true, 4).plain().literals('a', 'b', 'c', 'd').row("0")
            .commands(160).distances(0).row("11 10 01 00"));
        b.text("ddddccba".substring(1));
        packs("four of three LENGTHS", b, 1, b.stream().coded(true, 7).plain().literals('d', 'c', 'a', 'b').row("1")
            .commands(176).distances(0).row("1").row("0 0 0 10 10 111 110"));
    }

    private static void manySigns() {
        Bench b = new Bench().text("abcde");
        Bench.Stream s = b.stream().coded(true, 5).plain().row("00 00 01 01 00 110 00 1110");
        for (int i = 0; i < 8; i++) {
            s.row("0 111 10");
        }
        s.row("0 011  111 111 110 110 110").commands(168).distances(0).row("110 111 00 01 10");
        packs("abcde", b, 1, s);
        // A run of two 0s is told by marks 0; one of three by 17.
        b.text("\u0000\u0003\u0007\u0008\u0009");
        packs("runs of 0s", b, 2, b.stream().coded(true, 5).plain().row("00 00 110 110 00 110 00 110")
            .row("10 00 00 10 11 000 01 01 01").commands(168).distances(0)
            .row("110 111 00 01 10"));
    }

    private static void loneMark() {
        Bench b = new Bench().text("\u0000\u0001\u0002\u0003\u0004\u0005\u0006\u0007");
        packs("a lone mark", b, 1, b.stream().coded(true, 8).plain()
            .row("00 00 00 1110 00 00 00 00 00 00 00 00 00 00 00 00 00 00 00").commands(184).distances(0)
            .row("0").row("000 001 010 011 100 101 110 111"));
    }

    /**
     * Marks as often as: 0 and 17 24 times, 3, 6, 7 4, 4 twice, 2 and 5 once. So 2 and 5 would have LENGTH 6;
     * halved, and 1 (13, 3, 2, 1), these have 5, and 0 and 17 are joined before what was joined from others.
     */
    private static void longCodeOfMarks() {
        int[] signs = {1, 14, 48, 60, 107, 117, 130, 136, 194, 199, 221, 228, 230, 241, 249, 253};
        int[] often = {23, 10, 6, 1, 4, 1, 1, 1, 3, 13, 17, 30, 2, 2, 8, 1};
        StringBuilder text = new StringBuilder();
        for (int i = 0; i < signs.length; i++) {
            text.append(("" + (char) signs[i]).repeat(often[i]));
        }
        String mixed = mixed(text.toString());
        Bench b = new Bench().text(mixed);
        b.x.pack(1);
        Bench.due("no COPY", b.command(0), "123 0 0 " + (256 + 56));
        Bench.Stream due = b.stream().coded(true, 123).plain().row("00  00 1111 01 10 110 1111 110 01 00 01")
            .row("00 100  01 111 00 00 100  01 111 00 01 111 00 01 111 00 1110 01 111 00");
        int whole = due.size() / 8;
        Bench.due("the marks", b.made().substring(0, whole), due.bytes().substring(0, whole));
        b.x.pass();
        Bench.due("open", b.x.open(), 123);
        Bench.due("all is there again", b.made(), mixed);
    }

    /** Shuffles so that hardly any four bytes come twice. */
    private static String mixed(String text) {
        StringBuilder mixed = new StringBuilder(text);
        long state = 99;
        for (int i = mixed.length() - 1; i > 0; i--) {
            state = (state * 25214903917L + 11) & (1L << 48) - 1;
            int j = (int) (state >> 17) % (i + 1);
            j = j < 0 ? j + i + 1 : j;
            char c = mixed.charAt(i);
            mixed.setCharAt(i, mixed.charAt(j));
            mixed.setCharAt(j, c);
        }
        return mixed.toString();
    }

    private static void chooses(String what, Bench b, int level, String... commands) {
        b.x.pack(level);
        Bench.due(what + ", count(4)", b.x.count(4), commands.length);
        for (int i = 0; i < commands.length; i++) {
            Bench.due(what + ", command " + i, b.command(i), commands[i]);
        }
    }

    private static void copies() {
        Bench b = new Bench();
        for (int level = 1; level < 3; level++) {
            chooses("three are no copy", b.text("abcxabc"), level, "7 0 0 176");
            chooses("four are one", b.text("abcdabcd"), level, "4 4 4 34");
            chooses("the nearest", b.text("abcd1abcd22abcd"), level, "5 4 5 " + (128 + 40 + 2), "2 4 6 " + (128 + 16 + 2));
            chooses("the longest", b.text("abcde1abcd2abcde"), level,
                "6 4 6 " + (128 + 48 + 2), "1 5 11 " + (128 + 8 + 3));
            chooses("into itself", b.text("abababab!"), level, "2 6 2 " + (128 + 16 + 4), "1 0 0 136");
            chooses("200 at most", b.text("a".repeat(300)), level, "1 200 1 395", "0 99 1 384");
        }
        Bench.due("command(0, 4)", b.x.command(0, 4), BrotliWords.BAD);
        Bench.due("command(0, -1)", b.x.command(0, -1), BrotliWords.BAD);
        Bench.due("command(-1, 0)", b.x.command(-1, 0), BrotliWords.BAD);
        Bench.due("command(2, 0)", b.x.command(2, 0), BrotliWords.BAD);
    }

    /** Distances 11, 15 and 16 are signs 1, 2, 3 at first; each comes to THE RING then. */
    private static void ringSigns() {
        int[] distances = {4, 11, 15, 16};
        for (int sign = 0; sign < 4; sign++) {
            String text = "0123456789ABCDEF".substring(0, distances[sign]) + "0123";
            Bench b = new Bench().text(text);
            b.x.pack(1);
            Bench.due("distance " + distances[sign], b.x.command(0, 2), distances[sign]);
            b.x.pass();
            Bench.due("open", b.x.open(), text.length());
            Bench.due("made", b.made(), text);
            Bench.due("ring", b.ring(), new String[] {"4 11 15 16", "11 4 11 15", "15 4 11 15", "16 4 11 15"}[sign]);
        }
        Bench b = new Bench().text("abcdefabcdef12abcdef12");
        chooses("the last again", b, 1, "6 6 6 " + (128 + 48 + 4), "2 8 8 " + (128 + 16 + 6));
        // With sign 0 in a command of its own: few literals ahead and a COPY below 70.
        chooses("cells 0 and 1", new Bench().text("abcdabcd!bcd!zzzzzzzzzz"), 1,
            "4 4 4 34", "1 4 4 " + (8 + 2), "1 9 1 " + (128 + 8 + 7));
    }

    private static void wordChoices() {
        Bench b = new Bench().words("abcd", "abcd", "ABCD", "abcde", "bcdefg");
        chooses("the least number", b.text("abcd"), 1, "0 4 1 " + (128 + 2));
        chooses("the number before the CHANGE", b.text("ABCD"), 1, "0 4 9 " + (128 + 2));
        chooses("the least CHANGE", new Bench().words("ABCD").text("ABCD"), 1, "0 4 1 " + (128 + 2));
        // Of LENGTH 4, CHANGE 18, and of LENGTH 5 without the last, CHANGE 22, both make six: the least LENGTH.
        chooses("the least LENGTH", b.text("abcd, "), 1, "0 4 73 " + (128 + 2));
        chooses("the most bytes", b.text("abcde"), 1, "0 5 1 " + (128 + 3));
        chooses("without the first two more", b.text("cdefg"), 1, "0 6 4 4");
        chooses("four at least", b.text("cde!"), 1, "4 0 0 160");
        chooses("a blank ahead", b.text("x abcde"), 1, "1 5 14 " + (128 + 8 + 3));
        Bench one = new Bench().words("word");
        String[] texts = {"word", "Word", "WORD", "word ", " word", "word, ", "ord, ", " wor", "wor ", "wo, "};
        int[] changes = {0, 1, 2, 6, 12, 18, 21, 16, 10, 23};
        for (int i = 0; i < texts.length; i++) {
            for (int level = 1; level < 3; level++) {
                int away = 1 + changes[i];
                int due = away == 11 ? 1 : 0;
                one.text(texts[i]).x.pack(level);
                Bench.due("word " + texts[i], one.x.command(0, 1) + " " + one.x.command(0, 2), "4 " + away);
                one.x.pass();
                one.x.open();
                Bench.due("word " + texts[i] + " again", one.made(), texts[i]);
                Bench.due("a word leaves THE RING", one.ring(), "4 11 15 16");
                Bench.due("sign of a ring's distance", one.x.length(2, 0, due), 0);
            }
        }
        // The word's DISTANCE is just the last one: no distance is told at all.
        chooses("cell 0 for a word", new Bench().words("aaaa", "bbbb", "cccc", "dddd").text("dddd"), 1, "0 4 4 2");
    }

    private static void longest() {
        Bench b = new Bench().words("efgh", "abcdef");
        chooses("a COPY before a WORD of as many", b.text("efghefgh"), 1, "0 4 1 130", "0 4 4 2");
        chooses("a WORD of more", b.text("abcd1abcdef"), 1, "0 6 6 " + (128 + 4), "1 6 6 " + (128 + 8 + 4));
        chooses("from left to right", new Bench().text("abcdbcdefghiabcdefghi"), 1,
            "12 4 12 " + (256 + 2), "0 5 9 " + (128 + 3));
    }

    private static void cheapest() {
        // One literal and a COPY of eight cost 33, two COPIES 48.
        chooses("a literal first", new Bench().text("abcdbcdefghiabcdefghi"), 2, "13 8 9 " + (256 + 6));
        // Four literals and a COPY would cost 60 here, two COPIES 48.
        chooses("two COPIES", new Bench().text("abcdeefghijklabcdefghijkl"), 2,
            "13 5 13 " + (256 + 3), "0 7 12 " + (128 + 5));
        // A literal and a WORD of eight cost 33, a WORD of four and five literals 69.
        chooses("a literal ahead of a WORD", new Bench().words("abcd", "bcdefghi").text("!!abcdefghi"), 2,
            "3 8 4 " + (24 + 6));
        chooses("a WORD before a literal of like cost", new Bench().words("abcd", "bcde").text("abcde"), 2,
            "0 4 1 " + (128 + 2), "1 0 0 136");
        chooses("a COPY before a literal of like cost", new Bench().text("abcd1bcde2abcde"), 2,
            "10 4 10 " + (256 + 2), "1 0 0 136");
        chooses("a WORD of four costs less than its literals", new Bench().words("abcd").text("12abcd345678"), 2,
            "2 4 3 " + (128 + 16 + 2), "6 0 0 176");
        Bench b = new Bench().words("efgh");
        chooses("a COPY before a WORD of like cost", b.text("efghefgh"), 2, "0 4 1 130", "0 4 4 2");
    }

    /** INSERTS around each BASE, as many literals as the signs of two bytes give without a COPY of four. */
    private static void codesOfNumbers() {
        StringBuilder text = new StringBuilder();
        for (int i = 0; i < 128; i++) {
            for (int j = i; j < 128; j++) {
                text.append((char) i).append((char) (j + 128));
            }
        }
        int[] inserts = {1, 5, 6, 7, 8, 9, 10, 13, 14, 17, 18, 129, 130, 193, 194, 321, 322, 577, 578, 1089, 1090, 2000};
        int[] codes = {1, 5, 6, 6, 7, 7, 8, 8, 9, 9, 10, 15, 16, 16, 17, 17, 18, 18, 19, 19, 20, 20};
        for (int i = 0; i < inserts.length; i++) {
            Bench b = new Bench().text(text.substring(0, inserts[i]));
            b.x.pack(1);
            int cell = new int[] {2, 4, 7}[codes[i] / 8];
            Bench.due("insert " + inserts[i], b.command(0), inserts[i] + " 0 0 " + (64 * cell + codes[i] % 8 * 8));
        }
        int[] copies = {4, 9, 10, 11, 12, 13, 14, 69, 70, 101, 102, 133, 134, 197, 198, 200};
        int[] copyCodes = {2, 7, 8, 8, 9, 9, 10, 15, 16, 16, 17, 17, 18, 18, 19, 19};
        for (int i = 0; i < copies.length; i++) {
            Bench b = new Bench().text("z".repeat(copies[i] + 1));
            b.x.pack(2);
            int cell = new int[] {2, 3, 6}[copyCodes[i] / 8];
            Bench.due("copy " + copies[i], b.command(0), "1 " + copies[i] + " 1 " + (64 * cell + 8 + copyCodes[i] % 8));
        }
    }

    private static void commandsStay() {
        Bench b = new Bench().text("abcdabcd");
        b.x.pack(1);
        b.x.pack(7);
        b.x.pass();
        b.x.open();
        Bench.due("behind a BAD pack() and an open()", b.command(0), "4 4 4 34");
        Bench.due("part", b.part(0), "3 8 1 1 1 1 1 0 0 1 1 0");
        b.text("abc").x.pack(2);
        Bench.due("pack() leaves what open() saw", b.x.count(3) + " " + b.x.read() + " " + b.x.length(0, 0, 'a'),
            "1 " + b.x.read() + " 2");
        b.text("abc").x.pack(0);
        Bench.due("LEVEL 0 has none", b.x.count(4), 0);
    }

    /** Texts of words, copies and literals by chance: what is packed opens to the same again. */
    private static void backAndForth() {
        java.util.Random chance = new java.util.Random(20261115);
        for (int run = 0; run < 400; run++) {
            Bench b = new Bench();
            String[] words = new String[chance.nextInt(20)];
            for (int i = 0; i < words.length; i++) {
                words[i] = letters(chance, 4 + chance.nextInt(7), "abcde ,A");
            }
            b.words(words);
            StringBuilder text = new StringBuilder();
            String signs = chance.nextBoolean() ? "ab" : "abcdefghijklmnopqrstuvwxyz ,.\u0000\u00ff";
            int size = chance.nextInt(200);
            while (text.length() < size) {
                int kind = chance.nextInt(3);
                if (kind == 0 && words.length > 0) {
                    int i = chance.nextInt(words.length);
                    String word = words[i];
                    text.append(chance.nextBoolean() ? word + ", " : word.substring(1));
                } else if (kind == 1 && text.length() > 0) {
                    text.append(text.substring(chance.nextInt(text.length())));
                } else {
                    text.append(letters(chance, 1 + chance.nextInt(6), signs));
                }
            }
            text.setLength(size);
            int level = chance.nextInt(3);
            b.text(text.toString()).x.pack(level);
            b.x.pass();
            Bench.due("run " + run + " by " + level, b.x.open(), text.length());
            Bench.due("run " + run + " by " + level + ", out", b.made(), text.toString());
        }
    }

    private static String letters(java.util.Random chance, int many, String signs) {
        StringBuilder letters = new StringBuilder();
        for (int i = 0; i < many; i++) {
            letters.append(signs.charAt(chance.nextInt(signs.length())));
        }
        return letters.toString();
    }
}
