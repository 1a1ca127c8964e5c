/** Promises 11, 20 and 21: packing by each LEVEL, bit by bit, and the commands that were chosen. */
final class PackTest {
    public static void main(String[] args) {
        refused();
        refusedLeavesAll();
        levelNone();
        rawSizes();
        nothing();
        oneLiteral();
        fewSigns();
        manySigns();
        zerosByMarks();
        noLiterals();
        loneMark();
        longCodeOfMarks();
        copies();
        copiesAtTheirEdges();
        ringSigns();
        eachSignOfTheRing();
        leastSign();
        farSigns();
        cells();
        wordChoices();
        wordsAtTheirEdges();
        wordNumbers();
        longest();
        cheapest();
        costs();
        codesOfNumbers();
        commandsStay();
        commandIsBad();
        noise();
        mostCommands();
        backAndForth();
        asThePlainWay();
        codesAsThePlainWay();
        Bench.finish("PackTest");
    }

    private static void packs(String what, Bench b, int level, Bench.Stream due) {
        int size = b.x.pack(level);
        Bench.due(what, b.made(), due.bytes());
        Bench.due(what + ", size", size, due.bytes().length());
        Bench.due(what + ", TAPE", b.x.count(1), 0);
        Bench.due(what + ", OUT", b.x.count(2), due.bytes().length());
    }

    private static void refused() {
        Bench b = new Bench().text("abc");
        Bench.due("pack(-1)", b.x.pack(-1), BrotliWords.BAD);
        Bench.due("pack(3)", b.x.pack(3), BrotliWords.BAD);
        Bench.due("the TAPE stays", b.x.count(1), 3);
        Bench full = new Bench().text("x".repeat(2001));
        for (int level = 0; level < 3; level++) {
            Bench.due("pack(" + level + ") of 2,001", full.x.pack(level), BrotliWords.BAD);
        }
        Bench.due("all 2,001 stay", full.x.count(1), 2001);
        full.x.wipe();
        Bench.due("pack(0) of 2,000", full.text("x".repeat(2000)).x.pack(0), 2006);
        Bench.due("pack(1) of 2,000", full.text("x".repeat(2000)).x.pack(1) < 40 ? 1 : 0, 1);
    }

    // "BAD: another LEVEL, above 2,000 bytes (the TAPE stays)": and so does what the latest pack() made.
    private static void refusedLeavesAll() {
        Bench b = new Bench().text("abcdabcd");
        int size = b.x.pack(1);
        String made = b.made();
        b.text("y".repeat(2001));
        for (int level : new int[] {-1, 3, 4, Integer.MIN_VALUE, Integer.MAX_VALUE, 0, 1, 2}) {
            Bench.due("pack(" + level + ")", b.x.pack(level), BrotliWords.BAD);
        }
        Bench.due("TAPE", b.x.count(1), 2001);
        Bench.due("its last byte", b.x.spoil(2000, 1), 'y' ^ 1);
        Bench.due("OUT", b.x.count(2), size);
        Bench.due("OUT's bytes", b.made(), made);
        Bench.due("commands", b.x.count(4) + ": " + b.command(0), "1: 4 4 4 34");
        b.x.wipe();
        b.text("z");
        for (int level : new int[] {-1, 3, Integer.MIN_VALUE, Integer.MAX_VALUE}) {
            Bench.due("pack(" + level + ") of one", b.x.pack(level), BrotliWords.BAD);
            Bench.due("TAPE of one", b.x.count(1), 1);
        }
        Bench.due("commands still", b.x.count(4), 1);
    }

    // "LEVEL 0: .. if there are bytes: a RAW PART (four NIBBLES); an EMPTY one": 1 and 2,000 of them.
    private static void rawSizes() {
        for (int size : new int[] {1, 2, 20, 255, 256, 257, 1999, 2000}) {
            Bench b = new Bench().text("x".repeat(size));
            Bench.due("pack(0) of " + size, b.x.pack(0), size + 6);
            Bench.due("its ends", b.x.out(0) + " " + b.x.out(5) + " " + b.x.out(4 + size) + " " + b.x.out(5 + size), "101 120 120 3");
            Bench.due("count(4)", b.x.count(4), 0);
            b.x.pass();
            Bench.due("open", b.x.open(), size);
            Bench.due("parts", b.part(0) + " | " + b.part(1), "2 " + size + " 0 0 0 0 0 0 0 0 0 0 | 0 0 0 0 0 0 0 0 0 0 0 0");
        }
    }

    private static void levelNone() {
        Bench b = new Bench().words("abcd").text("abcd\u00ff");
        packs("LEVEL 0", b, 0, b.stream().raw("abcd\u00ff").empty());
        Bench.due("LEVEL 0, count(4)", b.x.count(4), 0);
        Bench.due("LEVEL 0, command", b.x.command(0, 0), BrotliWords.BAD);
    }

    private static void nothing() {
        for (int level = 0; level < 3; level++) {
            Bench b = new Bench();
            packs("nothing by " + level, b, level, b.stream().empty());
            Bench.due("nothing by " + level + ", count(4)", b.x.count(4), 0);
        }
    }

    private static void oneLiteral() {
        for (int level = 1; level < 3; level++) {
            Bench b = new Bench().text("a");
            packs("a by " + level, b, level, b.stream().coded(true, 1).plain().literals('a').commands(136).distances(0));
            Bench.due("a by " + level + ", count(4)", b.x.count(4), 1);
            Bench.due("a by " + level + ", command", b.command(0), "1 0 0 136");
        }
    }

    private static void fewSigns() {
        Bench b = new Bench().text("ba");
        packs("two", b, 1, b.stream().coded(true, 2).plain().literals('a', 'b').commands(144).distances(0).row("1 0"));
        b.text("caabaa");
        packs("three", b, 1, b.stream().coded(true, 6).plain().literals('a', 'b', 'c').commands(176).distances(0)
            .row("0").row("11 0 0 10 0 0"));
        b.text("dcba");
        packs("four", b, 1, b.stream().coded(true, 4).plain().literals('a', 'b', 'c', 'd').row("0")
            .commands(160).distances(0).row("11 10 01 00"));
        b.text("ddddccba".substring(1));
        packs("four of three LENGTHS", b, 1, b.stream().coded(true, 7).plain().literals('d', 'c', 'a', 'b').row("1")
            .commands(176).distances(0).row("1").row("0 0 0 10 10 111 110"));
    }

    private static void manySigns() {
        Bench b = new Bench().text("abcde");
        Bench.Stream s = b.stream().coded(true, 5).plain().row("00 00 01 01 00 110 00 1110");
        for (int i = 0; i < 8; i++) {
            s.row("0 111 10");
        }
        s.row("0 011  111 111 110 110 110").commands(168).distances(0).row("110 111 00 01 10");
        packs("abcde", b, 1, s);
        // A run of two 0s is told by marks 0; one of three by 17.
        b.text("\u0000\u0003\u0007\u0008\u0009");
        packs("runs of 0s", b, 2, b.stream().coded(true, 5).plain().row("00 00 110 110 00 110 00 110")
            .row("10 00 00 10 11 000 01 01 01").commands(168).distances(0)
            .row("110 111 00 01 10"));
    }

    // "0s: if three or more are one behind the other from there on, and the mark before was no 17: a 17 for ten of
    // them at most; else a 0": so many 0s ahead of five signs, whose LENGTHS are 3, 3, 2, 2, 2.
    private static void zerosByMarks() {
        int[] zeros = {2, 3, 10, 11, 13, 14};
        String[] marks = {"00 1110 110 00 110", "00 1110 110 00 00 00 110", "00 1110 110 00 00 00 110",
            "00 1110 110 00 01 00 01", "00 110 110 00 110 00 110", "00 110 110 00 110 00 110"};
        String[] rows = {"10 10  11 11 0 0 0", "11 000  10 10 0 0 0", "11 111  10 10 0 0 0",
            "111 111 110  10 10 0 0 0", "11 111 00 00 00  10 10 01 01 01", "11 111 00 11 000  10 10 01 01 01"};
        for (int i = 0; i < zeros.length; i++) {
            char z = (char) zeros[i];
            Bench b = new Bench().text("" + z + (char) (z + 1) + (char) (z + 2) + (char) (z + 3) + (char) (z + 4));
            packs(zeros[i] + " 0s ahead", b, 1 + i % 2, b.stream().coded(true, 5).plain().row("00").row(marks[i]).row(rows[i])
                .commands(168).distances(0).row("110 111 00 01 10"));
        }
    }

    // "none at all: sign 0 alone": of literals where there are WORDS alone; of distances where sign 0 is all.
    private static void noLiterals() {
        Bench b = new Bench().words("word", "more");
        packs("a WORD alone", b.text("word"), 1, b.stream().coded(true, 4).plain().literals(0).commands(130)
            .distances(16).row("0"));
        Bench last = new Bench().words("aaaa", "bbbb", "cccc", "dddd");
        packs("sign 0 alone", last.text("dddd"), 2, last.stream().coded(true, 4).plain().literals(0).commands(2).distances(0));
        // At the second place the last DISTANCE, 4, is a COPY of all that is there.
        packs("sign 0 twice", last.text("dddddddd"), 1, last.stream().coded(true, 8).plain().literals(0).commands(2, 130)
            .distances(16).row("0  1 0"));
    }

    private static void loneMark() {
        Bench b = new Bench().text("\u0000\u0001\u0002\u0003\u0004\u0005\u0006\u0007");
        packs("a lone mark", b, 1, b.stream().coded(true, 8).plain()
            .row("00 00 00 1110 00 00 00 00 00 00 00 00 00 00 00 00 00 00 00").commands(184).distances(0)
            .row("0").row("000 001 010 011 100 101 110 111"));
    }

    /**
     * Marks as often as: 0 and 17 24 times, 3, 6, 7 4, 4 twice, 2 and 5 once. So 2 and 5 would have LENGTH 6;
     * halved, and 1 (13, 3, 2, 1), these have 5, and 0 and 17 are joined before what was joined from others.
     */
    private static void longCodeOfMarks() {
        int[] signs = {1, 14, 48, 60, 107, 117, 130, 136, 194, 199, 221, 228, 230, 241, 249, 253};
        int[] often = {23, 10, 6, 1, 4, 1, 1, 1, 3, 13, 17, 30, 2, 2, 8, 1};
        StringBuilder text = new StringBuilder();
        for (int i = 0; i < signs.length; i++) {
            text.append(("" + (char) signs[i]).repeat(often[i]));
        }
        String mixed = mixed(text.toString());
        Bench b = new Bench().text(mixed);
        b.x.pack(1);
        Bench.due("no COPY", b.command(0), "123 0 0 " + (256 + 56));
        Bench.Stream due = b.stream().coded(true, 123).plain().row("00  00 1111 01 10 110 1111 110 01 00 01")
            .row("00 100  01 111 00 00 100  01 111 00 01 111 00 01 111 00 1110 01 111 00");
        int whole = due.size() / 8;
        Bench.due("the marks", b.made().substring(0, whole), due.bytes().substring(0, whole));
        b.x.pass();
        Bench.due("open", b.x.open(), 123);
        Bench.due("all is there again", b.made(), mixed);
    }

    /** Shuffles so that hardly any four bytes come twice. */
    private static String mixed(String text) {
        StringBuilder mixed = new StringBuilder(text);
        long state = 99;
        for (int i = mixed.length() - 1; i > 0; i--) {
            state = (state * 25214903917L + 11) & (1L << 48) - 1;
            int j = (int) (state >> 17) % (i + 1);
            j = j < 0 ? j + i + 1 : j;
            char c = mixed.charAt(i);
            mixed.setCharAt(i, mixed.charAt(j));
            mixed.setCharAt(j, c);
        }
        return mixed.toString();
    }

    private static void chooses(String what, Bench b, int level, String... commands) {
        b.x.pack(level);
        Bench.due(what + ", count(4)", b.x.count(4), commands.length);
        for (int i = 0; i < commands.length; i++) {
            Bench.due(what + ", command " + i, b.command(i), commands[i]);
        }
    }

    private static void copies() {
        Bench b = new Bench();
        for (int level = 1; level < 3; level++) {
            chooses("three are no copy", b.text("abcxabc"), level, "7 0 0 176");
            chooses("four are one", b.text("abcdabcd"), level, "4 4 4 34");
            chooses("the nearest", b.text("abcd1abcd22abcd"), level, "5 4 5 " + (128 + 40 + 2), "2 4 6 " + (128 + 16 + 2));
            chooses("the longest", b.text("abcde1abcd2abcde"), level,
                "6 4 6 " + (128 + 48 + 2), "1 5 11 " + (128 + 8 + 3));
            chooses("into itself", b.text("abababab!"), level, "2 6 2 " + (128 + 16 + 4), "1 0 0 136");
            chooses("200 at most", b.text("a".repeat(300)), level, "1 200 1 395", "0 99 1 384");
        }
        Bench.due("command(0, 4)", b.x.command(0, 4), BrotliWords.BAD);
        Bench.due("command(0, -1)", b.x.command(0, -1), BrotliWords.BAD);
        Bench.due("command(-1, 0)", b.x.command(-1, 0), BrotliWords.BAD);
        Bench.due("command(2, 0)", b.x.command(2, 0), BrotliWords.BAD);
    }

    // "the greatest m (4 .. 200)", "(they may go on into those from p on)", "of like ones the nearest".
    private static void copiesAtTheirEdges() {
        for (int level = 1; level < 3; level++) {
            for (int size = 1; size <= 4; size++) {
                chooses(size + " of one byte", new Bench().text("a".repeat(size)), level, size + " 0 0 " + (128 + 8 * size));
            }
            chooses("5 of one byte", new Bench().text("a".repeat(5)), level, "1 4 1 " + (128 + 8 + 2));
            chooses("200 of one byte", new Bench().text("a".repeat(200)), level, "1 199 1 " + (384 + 8 + 3));
            chooses("201 of one byte", new Bench().text("a".repeat(201)), level, "1 200 1 " + (384 + 8 + 3));
            chooses("202 of one byte", new Bench().text("a".repeat(202)), level, "1 200 1 395", "1 0 0 136");
            chooses("204 of one byte", new Bench().text("a".repeat(204)), level, "1 200 1 395", "3 0 0 152");
            chooses("205 of one byte", new Bench().text("a".repeat(205)), level, "1 200 1 395", "0 4 1 2");
            chooses("from the first byte", new Bench().text("abcdeabcd"), level, "5 4 5 " + (128 + 40 + 2));
            chooses("at the last bytes", new Bench().text("12345abcdefabcd"), level, "11 4 6 " + (256 + 2));
            chooses("three at the last", new Bench().text("12345abcdefabc"), level, "14 0 0 " + (256 + 8));
            chooses("the nearest of three", new Bench().text("abcd1abcd2abcd3abcd"), level,
                "5 4 5 170", "1 4 5 10", "1 4 5 10");
        }
        // 400 bytes that stand twice: 200 at a time, of like ones the nearest.
        String text = noiseOf(400, 5);
        chooses("400 again", new Bench().text(text + text), 1, "400 200 400 " + (64 * 10 + 16 + 3), "0 200 400 " + (384 + 3));
    }

    /** Distances 11, 15 and 16 are signs 1, 2, 3 at first; each comes to THE RING then. */
    private static void ringSigns() {
        int[] distances = {4, 11, 15, 16};
        for (int sign = 0; sign < 4; sign++) {
            String text = "0123456789ABCDEF".substring(0, distances[sign]) + "0123";
            Bench b = new Bench().text(text);
            b.x.pack(1);
            Bench.due("distance " + distances[sign], b.x.command(0, 2), distances[sign]);
            b.x.pass();
            Bench.due("open", b.x.open(), text.length());
            Bench.due("made", b.made(), text);
            Bench.due("ring", b.ring(), new String[] {"4 11 15 16", "11 4 11 15", "15 4 11 15", "16 4 11 15"}[sign]);
        }
        Bench b = new Bench().text("abcdefabcdef12abcdef12");
        chooses("the last again", b, 1, "6 6 6 " + (128 + 48 + 4), "2 8 8 " + (128 + 16 + 6));
        // With sign 0 in a command of its own: few literals ahead and a COPY below 70.
        chooses("cells 0 and 1", new Bench().text("abcdabcd!bcd!zzzzzzzzzz"), 1,
            "4 4 4 34", "1 4 4 " + (8 + 2), "1 9 1 " + (128 + 8 + 7));
    }

    // THE RING "at first 16, 15, 11 and 4 (the last)", at each pack() anew: signs 1, 2, 3 and one of 9 .. 12 back.
    private static void eachSignOfTheRing() {
        int[] distances = {11, 15, 16};
        Bench b = new Bench();
        for (int turn = 0; turn < 6; turn++) {
            int d = distances[turn % 3];
            String base = "0123456789ABCDEF".substring(0, d);
            String text = base + base.substring(0, 5) + "!" + base.substring(d - 4) + "0";
            b.text(text).x.pack(1 + turn / 3);
            Bench.due("distances", b.x.count(4) + ": " + b.x.command(0, 2) + " " + b.x.command(1, 2), "2: " + d + " 10");
            b.x.pass();
            Bench.due("open", b.x.open(), d + 11);
            for (int sign = 0; sign < 64; sign++) {
                Bench.due(d + ", sign " + sign, b.x.length(2, 0, sign), sign == turn % 3 + 1 || sign == 19 ? 1 : 0);
            }
            Bench.due("ring", b.ring(), "10 " + d + " 4 11");
        }
    }

    // "the least sign of 0 .. 3 that means it": THE RING is 4, 11, 4, 11 when 11 comes again.
    private static void leastSign() {
        Bench b = new Bench().text("0123456789A" + "01234" + "1234" + "9A012");
        b.x.pack(1);
        Bench.due("commands", b.x.count(4) + ": " + b.command(0) + " | " + b.command(1) + " | " + b.command(2),
            "3: 11 5 11 259 | 0 4 4 130 | 0 5 11 131");
        b.x.pass();
        Bench.due("open", b.x.open(), 25);
        // A lone sign has no LENGTH: it was sign 1 three times.
        Bench.due("signs 1 and 3", b.x.length(2, 0, 1) + " " + b.x.length(2, 0, 3), "0 0");
        Bench.due("ring", b.ring(), "11 4 11 4");
    }

    // "else that above 15": the first and the last distance of each sign from 16 on.
    private static void farSigns() {
        int first = 1;
        for (int sign = 16; first < 1900; sign++) {
            int last = first + (1 << 1 + (sign - 16) / 2) - 1;
            for (int distance : new int[] {first, last}) {
                if (distance >= 6 && distance < 1990 && distance != 11 && distance != 15 && distance != 16) {
                    trySign(distance, sign);
                }
            }
            first = last + 1;
        }
    }

    /** Four bytes, so many others that they come again at a distance, by COPIES of 1 back. */
    private static void trySign(int distance, int sign) {
        Bench b = new Bench().text("wxyz" + "a".repeat(distance - 4) + "wxyz!");
        b.x.pack(1);
        int last = b.x.count(4) - 2;
        Bench.due("COPY of " + distance + " back", b.x.command(last, 1) + " " + b.x.command(last, 2), "4 " + distance);
        b.x.pass();
        Bench.due("open", b.x.open(), distance + 5);
        if (distance >= 9) {
            Bench.due("sign " + sign + " of " + distance, b.x.length(2, 0, sign) > 0 ? 1 : 0, 1);
            Bench.due("the signs beside it", b.x.length(2, 0, sign - 1) + " " + b.x.length(2, 0, sign + 1), "0 0");
        }
    }

    // "Cell 0 (copy codes below 8) or 1 (below 16) with sign 0 and an insert code below 8; else .. 2 .. 10".
    private static void cells() {
        int[] inserts = {4, 8, 9, 10, 13, 129, 130, 150};
        int[] insertCodes = {4, 7, 7, 8, 8, 15, 16, 16};
        int[] copies = {4, 9, 10, 69, 70, 200};
        int[] copyCodes = {2, 7, 8, 15, 16, 19};
        int[] others = {2, 3, 6, 4, 5, 8, 7, 9, 10};
        for (int i = 0; i < inserts.length; i++) {
            for (int j = 0; j < copies.length; j++) {
                for (int distance = 4; distance <= inserts[i]; distance += inserts[i] - 4 > 0 ? inserts[i] - 4 : 9) {
                    tryCell(inserts[i], insertCodes[i], copies[j], copyCodes[j], distance, others);
                }
            }
        }
    }

    /** Literals that have no four bytes twice, then bytes of so far back; 4 back is sign 0 at first. */
    private static void tryCell(int insert, int insertCode, int copy, int copyCode, int distance, int[] others) {
        StringBuilder text = new StringBuilder();
        for (int i = 0; i < insert; i++) {
            text.append((char) (i + 1));
        }
        for (int i = 0; i < copy; i++) {
            text.append(text.charAt(text.length() - distance));
        }
        boolean last = distance == 4 && insertCode < 8 && copyCode < 16;
        int cell = last ? copyCode / 8 : others[insertCode / 8 * 3 + copyCode / 8];
        for (int level = 1; level < 3; level++) {
            Bench b = new Bench().text(text.toString());
            chooses("cell of " + insert + ", " + copy, b, level, insert + " " + copy + " " + distance + " "
                + (64 * cell + insertCode % 8 * 8 + copyCode % 8));
            b.x.pass();
            Bench.due("open", b.x.open(), text.length());
            Bench.due("out", b.made(), text.toString());
        }
    }

    // "make just the bytes there, 4 at least": what ends with the TAPE, and what would go beyond it.
    private static void wordsAtTheirEdges() {
        String[] texts = {"word", "wor", "word,", "word, ", "word ", " word", " wor",
            "Word,", "WORD, ", "WoRD", "ord", "ord ", " ord"};
        String[] due = {"0 4 1", "3 0 0", "0 4 1", "0 4 19", "0 4 7", "0 4 13", "0 4 17",
            "0 4 2", "0 4 21", "4 0 0", "3 0 0", "0 4 10", "0 4 16"};
        for (int i = 0; i < texts.length; i++) {
            for (int level = 1; level < 3; level++) {
                Bench b = new Bench().words("word").text(texts[i]);
                b.x.pack(level);
                Bench.due("<" + texts[i] + ">", b.x.command(0, 0) + " " + b.x.command(0, 1) + " " + b.x.command(0, 2), due[i]);
            }
        }
        // LENGTH 5 without one byte and LENGTH 6 without two make four; LENGTH 5 without two and a blank, too.
        chooses("without the first", new Bench().words("abcde").text("bcde"), 1, "0 5 4 3");
        chooses("without the last", new Bench().words("abcde").text("abcd"), 1, "0 5 5 131");
        chooses("without the last two", new Bench().words("abcdef").text("abcd"), 1, "0 6 6 132");
        chooses("three and a blank", new Bench().words("abcde").text("abc "), 1, "0 5 12 131");
        chooses("three alone", new Bench().words("abcde").text("abc"), 1, "3 0 0 152");
        chooses("twelve bytes", new Bench().words("abcdefghij").text("ABCDEFGHIJ, "), 1, "0 10 21 192");
        chooses("of like ones the least number", new Bench().words("abcde", "abcdf").text("abcd"), 1, "0 5 9 131");
        chooses("of like ones the least LENGTH", new Bench().words("xabcdef", "abcdef").text("abcdef"), 1, "0 6 1 132");
        chooses("though its number is greater", new Bench().words("xabcdef", "ghijkl", "abcdef").text("abcdef"), 1, "0 6 2 132");
        chooses("a blank ahead or behind", new Bench().words("abcd").text(" abcd "), 1, "0 4 13 130", "1 0 0 136");
    }

    // DISTANCE of a WORD: MOST and 1, and its number, and CHANGE times 2^BITS.
    private static void wordNumbers() {
        for (int many : new int[] {1, 2, 3, 4, 5, 8, 9, 16, 17, 31, 32}) {
            int room = many == 1 ? 1 : 2 * Integer.highestOneBit(many - 1);
            Bench b = new Bench();
            for (int i = 0; i < many; i++) {
                b.words("w" + (char) ('A' + i) + "xy");
            }
            String word = "w" + (char) ('A' + many - 1) + "xy";
            b.text("!!" + word).x.pack(1);
            Bench.due("the last of " + many, b.x.command(0, 2), 3 + many - 1);
            b.text("!!" + word.toUpperCase() + ", ").x.pack(2);
            Bench.due("CHANGE 20 of the last of " + many, b.x.command(0, 2), 3 + many - 1 + 20 * room);
            b.x.pass();
            Bench.due("open", b.x.open(), 8);
            Bench.due("out", b.made(), "!!" + word.toUpperCase() + ", ");
        }
    }

    private static void wordChoices() {
        Bench b = new Bench().words("abcd", "abcd", "ABCD", "abcde", "bcdefg");
        chooses("the least number", b.text("abcd"), 1, "0 4 1 " + (128 + 2));
        chooses("the number before the CHANGE", b.text("ABCD"), 1, "0 4 9 " + (128 + 2));
        chooses("the least CHANGE", new Bench().words("ABCD").text("ABCD"), 1, "0 4 1 " + (128 + 2));
        // Of LENGTH 4, CHANGE 18, and of LENGTH 5 without the last, CHANGE 22, both make six: the least LENGTH.
        chooses("the least LENGTH", b.text("abcd, "), 1, "0 4 73 " + (128 + 2));
        chooses("the most bytes", b.text("abcde"), 1, "0 5 1 " + (128 + 3));
        chooses("without the first two more", b.text("cdefg"), 1, "0 6 4 4");
        chooses("four at least", b.text("cde!"), 1, "4 0 0 160");
        chooses("a blank ahead", b.text("x abcde"), 1, "1 5 14 " + (128 + 8 + 3));
        Bench one = new Bench().words("word");
        String[] texts = {"word", "Word", "WORD", "word ", " word", "word, ", "ord, ", " wor", "wor ", "wo, "};
        int[] changes = {0, 1, 2, 6, 12, 18, 21, 16, 10, 23};
        for (int i = 0; i < texts.length; i++) {
            for (int level = 1; level < 3; level++) {
                int away = 1 + changes[i];
                int due = away == 11 ? 1 : 0;
                one.text(texts[i]).x.pack(level);
                Bench.due("word " + texts[i], one.x.command(0, 1) + " " + one.x.command(0, 2), "4 " + away);
                one.x.pass();
                one.x.open();
                Bench.due("word " + texts[i] + " again", one.made(), texts[i]);
                Bench.due("a word leaves THE RING", one.ring(), "4 11 15 16");
                Bench.due("sign of a ring's distance", one.x.length(2, 0, due), 0);
            }
        }
        // The word's DISTANCE is just the last one: no distance is told at all.
        chooses("cell 0 for a word", new Bench().words("aaaa", "bbbb", "cccc", "dddd").text("dddd"), 1, "0 4 4 2");
    }

    private static void longest() {
        Bench b = new Bench().words("efgh", "abcdef");
        chooses("a COPY before a WORD of as many", b.text("efghefgh"), 1, "0 4 1 130", "0 4 4 2");
        chooses("a WORD of more", b.text("abcd1abcdef"), 1, "0 6 6 " + (128 + 4), "1 6 6 " + (128 + 8 + 4));
        chooses("from left to right", new Bench().text("abcdbcdefghiabcdefghi"), 1,
            "12 4 12 " + (256 + 2), "0 5 9 " + (128 + 3));
    }

    // "the way of least COST: a literal 9, a COPY, a WORD 24 each; of like ones at a place a COPY, then a WORD, .."
    private static void costs() {
        // A literal, a COPY and a WORD cost 57; a WORD of seven and four literals 60.
        chooses("57 or 60", new Bench().words("aaaaaba", "babbab").text("aaaaababbab"), 2, "1 4 1 138", "0 6 6 132");
        // A literal, a COPY and five literals cost 78; three WORDS and a literal 81.
        chooses("78 or 81", new Bench().words("bbbba", "bbbbaaabb").text("b".repeat(13) + "aaabb"), 2, "1 12 1 201", "5 0 0 168");
        // Four WORDS cost 96, and so do a COPY of 14 and eight literals: the COPY.
        Bench b = new Bench().words("abcd", "efgh", "ijkl", "mnopqrstuv");
        chooses("a COPY or four WORDS", b.text("abcdefghijklmn!abcdefghijklmnopqrstuv"), 2,
            "0 4 1 130", "0 4 6 130", "0 4 11 130", "3 14 15 " + (192 + 24 + 2), "8 0 0 184");
        // Four WORDS cost 96, and so do a literal, a COPY of 15 and seven literals: the WORDS.
        chooses("four WORDS or a literal", b.text("!bcdefghijklmnop?abcdefghijklmnopqrstuv "), 2,
            "4 4 6 162", "0 4 11 130", "5 4 18 170", "0 4 23 130", "0 4 28 130", "0 10 36 192");
    }

    private static void cheapest() {
        // One literal and a COPY of eight cost 33, two COPIES 48.
        chooses("a literal first", new Bench().text("abcdbcdefghiabcdefghi"), 2, "13 8 9 " + (256 + 6));
        // Four literals and a COPY would cost 60 here, two COPIES 48.
        chooses("two COPIES", new Bench().text("abcdeefghijklabcdefghijkl"), 2,
            "13 5 13 " + (256 + 3), "0 7 12 " + (128 + 5));
        // A literal and a WORD of eight cost 33, a WORD of four and five literals 69.
        chooses("a literal ahead of a WORD", new Bench().words("abcd", "bcdefghi").text("!!abcdefghi"), 2,
            "3 8 4 " + (24 + 6));
        chooses("a WORD before a literal of like cost", new Bench().words("abcd", "bcde").text("abcde"), 2,
            "0 4 1 " + (128 + 2), "1 0 0 136");
        chooses("a COPY before a literal of like cost", new Bench().text("abcd1bcde2abcde"), 2,
            "10 4 10 " + (256 + 2), "1 0 0 136");
        chooses("a WORD of four costs less than its literals", new Bench().words("abcd").text("12abcd345678"), 2,
            "2 4 3 " + (128 + 16 + 2), "6 0 0 176");
        Bench b = new Bench().words("efgh");
        chooses("a COPY before a WORD of like cost", b.text("efghefgh"), 2, "0 4 1 130", "0 4 4 2");
    }

    /** INSERTS around each BASE, as many literals as the signs of two bytes give without a COPY of four. */
    private static void codesOfNumbers() {
        StringBuilder text = new StringBuilder();
        for (int i = 0; i < 128; i++) {
            for (int j = i; j < 128; j++) {
                text.append((char) i).append((char) (j + 128));
            }
        }
        int[] inserts = {1, 5, 6, 7, 8, 9, 10, 13, 14, 17, 18, 129, 130, 193, 194, 321, 322, 577, 578, 1089, 1090, 2000};
        int[] codes = {1, 5, 6, 6, 7, 7, 8, 8, 9, 9, 10, 15, 16, 16, 17, 17, 18, 18, 19, 19, 20, 20};
        for (int i = 0; i < inserts.length; i++) {
            Bench b = new Bench().text(text.substring(0, inserts[i]));
            b.x.pack(1);
            int cell = new int[] {2, 4, 7}[codes[i] / 8];
            Bench.due("insert " + inserts[i], b.command(0), inserts[i] + " 0 0 " + (64 * cell + codes[i] % 8 * 8));
        }
        int[] copies = {4, 9, 10, 11, 12, 13, 14, 69, 70, 101, 102, 133, 134, 197, 198, 200};
        int[] copyCodes = {2, 7, 8, 8, 9, 9, 10, 15, 16, 16, 17, 17, 18, 18, 19, 19};
        for (int i = 0; i < copies.length; i++) {
            Bench b = new Bench().text("z".repeat(copies[i] + 1));
            b.x.pack(2);
            int cell = new int[] {2, 3, 6}[copyCodes[i] / 8];
            Bench.due("copy " + copies[i], b.command(0), "1 " + copies[i] + " 1 " + (64 * cell + 8 + copyCodes[i] % 8));
        }
    }

    private static void commandsStay() {
        Bench b = new Bench().text("abcdabcd");
        b.x.pack(1);
        b.x.pack(7);
        b.x.pass();
        b.x.open();
        Bench.due("behind a BAD pack() and an open()", b.command(0), "4 4 4 34");
        Bench.due("part", b.part(0), "3 8 1 1 1 1 1 0 0 1 1 0");
        b.text("abc").x.pack(2);
        Bench.due("pack() leaves what open() saw", b.x.count(3) + " " + b.x.read() + " " + b.x.length(0, 0, 'a'),
            "1 " + b.x.read() + " 2");
        b.text("abc").x.pack(0);
        Bench.due("LEVEL 0 has none", b.x.count(4), 0);
    }

    // "BAD: none such": of command().
    private static void commandIsBad() {
        Bench b = new Bench().text("abcdabcd!");
        b.x.pack(2);
        Bench.due("the last command", b.command(1), "1 0 0 136");
        for (int v : new int[] {-1, 2, 3, Integer.MIN_VALUE, Integer.MAX_VALUE}) {
            Bench.due("command(" + v + ", 0)", b.x.command(v, 0), BrotliWords.BAD);
        }
        for (int v : new int[] {-1, 4, 5, Integer.MIN_VALUE, Integer.MAX_VALUE}) {
            Bench.due("command(0, " + v + ")", b.x.command(0, v), BrotliWords.BAD);
        }
        for (int level = 0; level < 3; level++) {
            b.x.pack(level);
            Bench.due("nothing by " + level, b.x.count(4) + " " + b.x.command(0, 0), "0 -1");
        }
    }

    // 2,000 bytes that have nothing in common: by each LEVEL they come back, and OUT goes to the TAPE.
    private static void noise() {
        String text = noiseOf(2000, 7);
        for (int level = 0; level < 3; level++) {
            Bench b = new Bench().text(text);
            int size = b.x.pack(level);
            Bench.due("noise by " + level, b.x.count(2), size);
            Bench.due("noise by " + level + ", pass", b.x.pass(), size);
            Bench.due("noise by " + level + ", open", b.x.open(), 2000);
            b.x.pass();
            b.x.pack(0);
            boolean same = true;
            for (int i = 0; i < 400; i++) {
                same &= b.x.out(5 + 5 * i) == text.charAt(5 * i);
            }
            Bench.due("noise by " + level + ", out", same ? 1 : 0, 1);
        }
    }

    // 2,000 bytes have 500 commands at most: WORDS (or COPIES) of four bytes, no two of which come twice together.
    private static void mostCommands() {
        String[] words = new String[32];
        for (int i = 0; i < 32; i++) {
            words[i] = "" + (char) (128 + i) + (char) (160 + i) + (char) (192 + i) + (char) (224 + i);
        }
        StringBuilder text = new StringBuilder();
        for (int step = 1; step < 32; step += 2) {
            for (int i = 0; i < 32; i++) {
                text.append(words[i * step % 32]);
            }
        }
        text.setLength(2000);
        for (int level = 1; level < 3; level++) {
            Bench b = new Bench().words(words).text(text.toString());
            b.x.pack(level);
            Bench.due("most commands", b.x.count(4), 500);
            Bench.due("the last of them", b.x.command(499, 0) + " " + b.x.command(499, 1) + " " + b.x.command(500, 0), "0 4 -1");
            b.x.pass();
            Bench.due("open", b.x.open(), 2000);
            Bench.due("commands", b.x.part(0, 9), 500);
            Bench.due("copies, words", b.x.part(0, 10) + b.x.part(0, 11), 500);
            Bench.due("last byte", b.x.out(1999), text.charAt(1999));
        }
    }

    private static String noiseOf(int size, int seed) {
        java.util.Random chance = new java.util.Random(seed);
        StringBuilder noise = new StringBuilder();
        for (int i = 0; i < size; i++) {
            noise.append((char) chance.nextInt(256));
        }
        return noise.toString();
    }

    /** Texts of words, copies and literals by chance: what is packed opens to the same again. */
    private static void backAndForth() {
        java.util.Random chance = new java.util.Random(20261115);
        for (int run = 0; run < 400; run++) {
            Bench b = new Bench();
            String[] words = new String[chance.nextInt(20)];
            for (int i = 0; i < words.length; i++) {
                words[i] = letters(chance, 4 + chance.nextInt(7), "abcde ,A");
            }
            b.words(words);
            StringBuilder text = new StringBuilder();
            String signs = chance.nextBoolean() ? "ab" : "abcdefghijklmnopqrstuvwxyz ,.\u0000\u00ff";
            int size = chance.nextInt(200);
            while (text.length() < size) {
                int kind = chance.nextInt(3);
                if (kind == 0 && words.length > 0) {
                    int i = chance.nextInt(words.length);
                    String word = words[i];
                    text.append(chance.nextBoolean() ? word + ", " : word.substring(1));
                } else if (kind == 1 && text.length() > 0) {
                    text.append(text.substring(chance.nextInt(text.length())));
                } else {
                    text.append(letters(chance, 1 + chance.nextInt(6), signs));
                }
            }
            text.setLength(size);
            int level = chance.nextInt(3);
            b.text(text.toString()).x.pack(level);
            b.x.pass();
            Bench.due("run " + run + " by " + level, b.x.open(), text.length());
            Bench.due("run " + run + " by " + level + ", out", b.made(), text.toString());
        }
    }

    /** Texts by chance, packed bit for bit as by the plain way. */
    private static void asThePlainWay() {
        java.util.Random chance = new java.util.Random(20261116);
        for (int run = 0; run < 1500; run++) {
            String signs = new String[] {"ab", "abc", "ab ,", "abcdefgh", "aAbB, \u00ff\u0000"}[run % 5];
            String[] words = new String[chance.nextInt(14)];
            for (int i = 0; i < words.length; i++) {
                words[i] = letters(chance, 4 + chance.nextInt(7), signs);
            }
            StringBuilder text = new StringBuilder();
            int size = run % 100 == 0 ? 2000 : 1 + chance.nextInt(90);
            while (text.length() < size) {
                int kind = chance.nextInt(4);
                if (kind == 0 && words.length > 0) {
                    text.append(PlainPacker.changed(words[chance.nextInt(words.length)], chance.nextInt(24)));
                } else if (kind == 1 && text.length() > 3) {
                    int from = chance.nextInt(text.length() - 3);
                    text.append(text.substring(from, Math.min(text.length(), from + 4 + chance.nextInt(20))));
                } else {
                    text.append(letters(chance, 1 + chance.nextInt(5), run % 3 == 0 ? noiseOf(30, run) : signs));
                }
            }
            text.setLength(size);
            like("run " + run, text.toString(), words, 1 + run % 2);
        }
    }

    private static void like(String what, String text, String[] words, int level) {
        Bench b = new Bench().words(words).text(text);
        b.x.pack(level);
        PlainPacker plain = new PlainPacker(text, words, level);
        StringBuilder commands = new StringBuilder();
        for (int i = 0; i < b.x.count(4); i++) {
            commands.append(b.command(i)).append(" | ");
        }
        Bench.due(what + ", commands", commands.toString(), plain.commands());
        Bench.due(what + ", OUT", b.made(), plain.stream(b.stream()).bytes());
    }

    /** Literals that come as often as chance says, so that LENGTHS of marks are above 5 at first in many a text. */
    private static void codesAsThePlainWay() {
        java.util.Random chance = new java.util.Random(1116);
        for (int run = 0; run < 1500; run++) {
            int many = 5 + chance.nextInt(30);
            StringBuilder text = new StringBuilder();
            for (int i = 0; i < many; i++) {
                double steep = 3 + chance.nextInt(4);
                text.append(("" + (char) chance.nextInt(256)).repeat(1 + (int) Math.pow(2, chance.nextDouble() * steep)));
            }
            text.setLength(Math.min(text.length(), 2000));
            like("codes " + run, mixed(text.toString()), new String[0], 1);
        }
        // No mark of these comes less often than twice, and their LENGTHS are above 5: all are halved.
        int[] signs = {1, 40, 47, 50, 54, 56, 70, 79, 81, 84, 85, 105, 119, 120, 123, 125, 136, 146, 153, 155, 165, 167,
            180, 190, 198, 202, 205, 220, 223, 225, 236, 250};
        int[] often = {16, 5, 5, 5, 12, 5, 3, 8, 2, 14, 20, 2, 4, 43, 3, 2, 2, 42, 6, 2, 4, 2, 31, 7, 15, 4, 5, 2, 6, 2, 3, 5};
        StringBuilder text = new StringBuilder();
        for (int i = 0; i < signs.length; i++) {
            text.append(("" + (char) signs[i]).repeat(often[i]));
        }
        like("all marks twice at least", mixed(text.toString()), new String[0], 1);
    }

    private static String letters(java.util.Random chance, int many, String signs) {
        StringBuilder letters = new StringBuilder();
        for (int i = 0; i < many; i++) {
            letters.append(signs.charAt(chance.nextInt(signs.length())));
        }
        return letters.toString();
    }
}
