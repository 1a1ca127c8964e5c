/** Promises 12, 18 and 19: KINDS, contexts, MAPS and CODES of a CODED PART. */
final class CodesTest {
    public static void main(String[] args) {
        literalContexts();
        distanceContexts();
        literalKinds();
        commandAndDistanceKinds();
        distancesThatAreNotRead();
        distanceContextsOfKinds();
        countsOfKinds();
        countsByTheirBits();
        kindsAnew();
        twelveOfAll();
        eachKindByEachSign();
        modesOfKinds();
        maps();
        twelveTreesMoved();
        mapsAnew();
        askedBeyond();
        shortCodes();
        longCodes();
        loneAnew();
        allSignsThere();
        lastOfAllSigns();
        latestPartWithCodes();
        Bench.finish("CodesTest");
    }

    /** A PART of one literal by two TREES of one sign each: which bit of the context is 1 tells the TREE. */
    private static int contextOf(int mode, int q, int p) {
        int context = 0;
        for (int bit = 0; bit < 6; bit++) {
            Bench b = new Bench();
            Bench.Stream s = b.stream().raw("" + (char) q + (char) p).coded(true, 1).row("000 00 0000").put(mode, 2)
                .row("1 000").row("0").told(1, 0, 1);
            for (int i = 0; i < 64; i++) {
                s.put(i >> bit & 1, 1);
            }
            s.row("0 0").literals('A').literals('B').commands(136).distances(0);
            Bench.due("context", b.open(s), 3);
            context |= b.x.out(2) == 'B' ? 1 << bit : 0;
        }
        return context;
    }

    private static void literalContexts() {
        for (int v = 0; v < 256; v++) {
            Bench.due("mode 0, " + v, contextOf(0, 77, v), v % 64);
            Bench.due("mode 1, " + v, contextOf(1, 77, v), v / 4);
            Bench.due("mode 2, first of " + v, contextOf(2, 0, v), first(v));
            Bench.due("mode 2, second of " + v, contextOf(2, v, 0), second(v));
            Bench.due("mode 2, both of " + v, contextOf(2, v, 'a'), 56 | second(v));
            Bench.due("mode 3, first of " + v, contextOf(3, 0, v), 8 * size(v));
            Bench.due("mode 3, second of " + v, contextOf(3, v, 255), 56 + size(v));
        }
        for (int mode = 0; mode < 4; mode++) {
            Bench b = new Bench();
            Bench.Stream s = b.stream().coded(true, 1).row("000 00 0000").put(mode, 2).row("1 000").row("0").told(1, 0, 1)
                .put(1, 62).put(0, 2).row("0 0").literals('A').literals('B').commands(136).distances(0);
            Bench.due("nothing before", b.open(s), 1);
            Bench.due("is context 0", b.made(), "B");
        }
    }

    private static int first(int v) {
        String[] groups = {"\t\n\r", " ", "", "\"'", "%", "([{<", ")]}>", ",:;", ".", "=", "0123456789",
            "AEIOU", "BCDFGHJKLMNPQRSTVWXYZ", "aeiou", "bcdfghjklmnpqrstvwxyz"};
        for (int i = 0; i < groups.length; i++) {
            if (groups[i].indexOf((char) v) >= 0) {
                return 4 + 4 * i;
            }
        }
        return v >= 192 ? 2 + v % 2 : v >= 128 ? v % 2 : v < 32 || v == 127 ? 0 : 12;
    }

    private static int second(int v) {
        char c = (char) v;
        if (v < 32 || v > 126 && v < 192) {
            return 0;
        }
        return Character.isLowerCase(c) && v < 128 ? 3 : v > 191 || Character.isLetterOrDigit(c) ? 2 : 1;
    }

    private static int size(int v) {
        int[] tops = {0, 15, 63, 127, 191, 239, 254, 255};
        int size = 0;
        while (v > tops[size]) {
            size++;
        }
        return size;
    }

    private static void distanceContexts() {
        int[] due = {1, 3, 5, 9, 9, 9, 9};
        for (int i = 0; i < 7; i++) {
            Bench b = new Bench();
            Bench.Stream s = b.stream().raw("abcdefghijklmnopqrst").coded(true, 2 + i).row("000 00 0000 00 0")
                .row("1 100 1").row("0").told(2, 0, 1, 2, 3).row("0  00 01 10 11  0")
                .literals('x').commands(128 + i).distances(16).distances(17).distances(18).distances(19)
                .put(0, i == 0 || i == 1 ? 1 : 2);
            Bench.due("copy " + (2 + i), b.open(s), 22 + i);
            Bench.due("copy " + (2 + i) + ", ring(0)", b.x.ring(0), due[i]);
            Bench.due("trees of distances", b.x.part(1, 6), 4);
            for (int j = 0; j < 4; j++) {
                Bench.due("map(1, " + j + ")", b.x.map(1, j), j);
            }
            Bench.due("map(1, 4)", b.x.map(1, 4), BrotliWords.BAD);
        }
    }

    private static void literalKinds() {
        Bench b = new Bench();
        Bench.Stream s = b.stream().coded(true, 10);
        // Three KINDS; the signs 0, 1, 3, 4 of what comes next in two bits each; COUNTS 1 and two bits.
        s.row("1 100 0").told(3, 0, 1, 3, 4).row("0").told(5, 0).put(1, 2);
        s.row("0 0 00 0000 000000");
        // Three TREES, one for each KIND: by runs, and moved to the front.
        s.row("1 100 0").row("1 1010").told(4, 5, 6, 7, 8).row("0");
        s.row("01").put(0, 6).row("10  00").put(31, 5).row("11  00").put(31, 5).row("1");
        s.row("0").literals('A').literals('B').literals('C').commands(256).distances(0).put(0, 2);
        s.row("01 00  00 00  00 00  11 00  01 00  10 00  00 00  00 10");
        Bench.due("open", b.open(s), 10);
        Bench.due("out", b.made(), "AABABCABAB");
        Bench.due("part", b.part(0), "3 10 3 1 1 3 1 0 0 1 0 0");
        for (int i = 0; i < 192; i++) {
            Bench.due("map(0, " + i + ")", b.x.map(0, i), i / 64);
        }
        Bench.due("map(0, 192)", b.x.map(0, 192), BrotliWords.BAD);
        Bench.due("map(0, -1)", b.x.map(0, -1), BrotliWords.BAD);
        Bench.due("map(2, 0)", b.x.map(2, 0), BrotliWords.BAD);
        Bench.due("map(-1, 0)", b.x.map(-1, 0), BrotliWords.BAD);
        Bench.due("map(1, 3)", b.x.map(1, 3), 0);
        Bench.due("length(0, 3, 0)", b.x.length(0, 3, 0), BrotliWords.BAD);
        theKindBeforeAtFirst();
    }

    private static void theKindBeforeAtFirst() {
        Bench b = new Bench();
        Bench.Stream s = b.stream().coded(true, 4).row("1 000").told(2, 0, 1).told(5, 0).put(0, 2);
        s.row("0 0 00 0000 0000  1 000  0").told(1, 0, 1).put(0, 64).put(-1L, 63).row("1").row("0");
        s.row("0").literals('A').literals('B').commands(160).distances(0).row("0 00  1 00  1 00");
        Bench.due("the KIND before at first", b.open(s), 4);
        Bench.due("is 1, and behind the last one 0 comes, then 1", b.made(), "ABAB");
    }

    private static void commandAndDistanceKinds() {
        Bench b = new Bench();
        Bench.Stream s = b.stream().raw("abcdefghij").coded(true, 12).row("0");
        // Two KINDS each, at first for one command and one distance; a TREE of distances for each KIND.
        s.row("1 000").told(2, 1, 2).told(5, 0).put(0, 2);
        s.row("1 000").told(2, 1, 2).told(5, 0).put(0, 2);
        s.row("00 0000 00 0").row("1 000  0").told(1, 0, 1).row("0000 1111 0");
        s.literals('x').commands(128).commands(137).distances(17).distances(18);
        s.row("0");
        s.row("0 10").row("0 00  11");
        s.row("0 00  0");
        s.row("1 00").row("1 00  1");
        Bench.due("open", b.open(s), 22);
        Bench.due("out", b.made(), "abcdefghijhixfghxghxxg");
        Bench.due("ring", b.ring(), "4 3 8 3");
        Bench.due("part", b.part(1), "3 12 1 2 2 1 2 0 0 4 4 0");
        Bench.due("length(1, 1, 0)", b.x.length(1, 1, 0), 0);
        Bench.due("length(1, 2, 0)", b.x.length(1, 2, 0), BrotliWords.BAD);
        for (int i = 0; i < 8; i++) {
            Bench.due("map(1, " + i + ")", b.x.map(1, i), i / 4);
        }
    }

    // "in cells 0 and 1 sign 0, and nothing is read": so it takes none of the COUNT of distances.
    private static void distancesThatAreNotRead() {
        Bench b = new Bench();
        Bench.Stream s = b.stream().raw("abcdefghij").coded(true, 12).row("0 0");
        // Two KINDS of distances, for one each time; KIND 0 has 1 back, KIND 1 has 3 back.
        s.row("1 000").told(2, 3).told(5, 0).put(0, 2);
        s.row("00 0000 00 0").row("1 000  0").told(1, 0, 1).row("0000 1111 0");
        // COPY 2, six times: by cell 0 but for the third and the fifth, which are of KINDS 0 and 1.
        s.literals('x').commands(0, 128).distances(16).distances(17);
        s.row("0 0").row("1 0").row("0").row("1 00 0").row("0");
        Bench.due("open", b.open(s), 22);
        Bench.due("out", b.made(), "abcdefghijghijjjjjjjjj");
        Bench.due("ring", b.ring(), "3 1 4 11");
        Bench.due("part", b.part(1), "3 12 1 1 2 1 2 0 0 6 6 0");
    }

    // "A distance's TREE: by the MAP at 4 times KIND and COPY less 2 (3 at most)"
    private static void distanceContextsOfKinds() {
        for (int copy = 2; copy <= 9; copy++) {
            Bench b = new Bench();
            Bench.Stream s = b.stream().raw("abcdefghijklmnopqrst").coded(true, 2 * copy).row("0 0");
            s.row("1 000").told(2, 3).told(5, 0).put(0, 2);
            // Eight TREES; the CODE of the MAP has three bits for each, and the MAP is 0 .. 7.
            s.row("00 1111 00 0  1 010 11  0").row("00  00 00 1110" + "00".repeat(15)).row("000 001 010 011 100 101 110 111  0");
            s.literals('x').commands(126 + copy);
            for (int tree = 0; tree < 8; tree++) {
                s.told(7, 16 + tree);
            }
            Bench.due("COPY " + copy, b.open(s.row("00")), 20 + 2 * copy);
            int context = Math.min(copy - 2, 3);
            Bench.due("COPY " + copy + ", ring", b.ring(), (5 + context) + " " + (1 + context) + " 4 11");
            Bench.due("COPY " + copy + ", map", b.x.map(1, 0) + " " + b.x.map(1, 7) + " " + b.x.map(1, 8), "0 7 -1");
        }
    }

    /** Each sign of a COUNT by its least and its greatest number: when it is over, a KIND is told. */
    private static void countsOfKinds() {
        int count = 1;
        for (int sign = 0; sign < 25; sign++) {
            int bits = sign < 16 ? 2 + sign / 4 : sign < 18 ? 6 : sign - 11;
            for (int e = 0; e < 1 << bits; e += (1 << bits) - 1) {
                int all = count + e;
                if (all < 2990) {
                    Bench b = new Bench();
                    Bench.Stream s = b.stream().coded(true, all + 1).row("1 000").told(2, 1).told(5, sign).put(e, bits);
                    s.row("0 0 00 0000 0000  1 000  0").told(1, 0, 1).put(0, 64).put(-1L, 63).row("1").row("0");
                    s.row("0").literals('A').literals('B').commands(insertSign(all + 1)).distances(0);
                    s.put(all + 1 - insertBase(all + 1), insertBits(all + 1)).put(0, bits);
                    Bench.due("count " + all, b.open(s), all + 1);
                    Bench.due("count " + all + ", its last", b.x.out(all - 1), 'A');
                    Bench.due("count " + all + ", the next", b.x.out(all), 'B');
                }
            }
            count += 1 << bits;
        }
        Bench b = new Bench();
        Bench.due("a COUNT by 24 bits", b.open(b.stream().coded(true, 3).row("1 000").told(2, 1).told(5, 25).put(0, 24)
            .row("0 0 10 1000 0000 0 0").literals('A').commands(152).told(7, 0)), 3);
        Bench.due("a COUNT by 24 bits, part", b.part(0), "3 3 2 1 1 1 1 1 2 1 0 0");
    }

    // ".. and as many bits more as: .. 11, 12, 13, 24": greater COUNTS than OUT can have are told to the bit.
    private static void countsByTheirBits() {
        int[] bits = {11, 12, 13, 24};
        for (int sign = 22; sign < 26; sign++) {
            for (int e = -1; e < 1; e++) {
                Bench b = new Bench();
                b.broken("COUNT by sign " + sign, b.lead(3).coded(false, 2990).row("1 000").told(2, 3).told(5, sign)
                    .put(e, bits[sign - 22]).row("0 0 00 0000 0000 0 0").literals('A').commands(488).distances(0)
                    .put(2990 - 2114, 12).put(0, sign == 22 && e == 0 ? 11 : 0).row("1 0 11"), 4);
                Bench.due("COUNT by sign " + sign + ", count(3)", b.x.count(3), 2);
            }
        }
    }

    // "KINDS, COUNTS do not [stay from PART to PART]": the next PART begins with KIND 0, and 1 before it.
    private static void kindsAnew() {
        Bench b = new Bench();
        Bench.Stream s = b.stream();
        for (int part = 0; part < 3; part++) {
            // One literal of KIND 0; then, by t = 0, a COUNT of three or four of that before it, KIND 1.
            s.coded(part == 2, 4).row("1 000").told(2, 0).told(5, 0).put(0, 2);
            s.row("0 0 00 0000 0000  1 000  0").told(1, 0, 1).put(0, 64).put(-1L, 63).row("1").row("0");
            s.row("0").literals('A').literals('B').commands(160).distances(0).put(2 + part % 2, 2);
        }
        Bench.due("three PARTS", b.open(s), 12);
        Bench.due("out", b.made(), "ABBBABBBABBB");
    }

    /** A CODE of twelve signs: the first four have three bits, the others four. */
    private static Bench.Stream twelve(Bench.Stream s) {
        return s.row("00  00 00 1110 1110  0000 11111111");
    }

    private static Bench.Stream ofTwelve(Bench.Stream s, int sign) {
        return s.row(Integer.toBinaryString(sign < 4 ? 8 + sign : 16 + 8 + sign - 4).substring(1));
    }

    // "12 at most": KINDS and TREES of all SORTS; MAPS of 768 and 48; 520 signs of distances.
    private static void twelveOfAll() {
        Bench b = new Bench();
        Bench.Stream s = b.stream().coded(true, 7);
        for (int sort = 0; sort < 3; sort++) {
            s.row("1 110 110").told(4, 13).told(5, 0).put(0, 2);
        }
        s.row("11 1111").put(0, 24);
        s.row("1 110 110  0").told(4, 0, 11).put(0, 60).put(0, 60).put(0, 60).put(0, 60).put(0, 60).put(0, 60).put(0, 60)
            .put(0, 60).put(0, 60).put(0, 60).put(0, 60).put(0, 44).put(-1L, 60).put(-1L, 4).row("0");
        s.row("1 110 110  0").told(4, 0, 11).put(0, 44).put(15, 4).row("0");
        for (int i = 0; i < 12; i++) {
            s.literals(i == 11 ? 'Z' : 'A' + i);
        }
        for (int i = 0; i < 12; i++) {
            s.told(10, i == 11 ? 144 : 136, 703);
        }
        for (int i = 0; i < 12; i++) {
            s.told(10, i == 11 ? 17 : 16, 519);
        }
        // KIND 0: a literal, a copy of 1 back; then KIND 11 by COUNTS of 1: two literals, a copy of 2 back.
        s.row("0 0").row("00 0").row("00 00").row("00 0");
        Bench.due("twelve of all", b.open(s), 7);
        Bench.due("out", b.made(), "AAAZZZZ");
        Bench.due("part", b.part(0), "3 7 12 12 12 12 12 3 120 2 2 0");
        Bench.due("ring", b.ring(), "2 1 4 11");
        Bench.due("read()", b.x.read(), (s.size() + 7) / 8 * 8);
        int[] places = {0, 703, 704, 767, 768};
        int[] trees = {0, 0, 11, 11, -1};
        for (int i = 0; i < 5; i++) {
            Bench.due("map(0, " + places[i] + ")", b.x.map(0, places[i]), trees[i]);
        }
        Bench.due("map(1, ..)", b.x.map(1, 43) + " " + b.x.map(1, 44) + " " + b.x.map(1, 47) + " " + b.x.map(1, 48), "0 11 11 -1");
        Bench.due("length(0, ..)", b.x.length(0, 11, 255) + " " + b.x.length(0, 11, 256) + " " + b.x.length(0, 12, 0), "0 -1 -1");
        Bench.due("length(1, ..)", b.x.length(1, 11, 144) + " " + b.x.length(1, 11, 703) + " " + b.x.length(1, 11, 704)
            + " " + b.x.length(1, 12, 0), "1 1 -1 -1");
        Bench.due("length(2, ..)", b.x.length(2, 11, 17) + " " + b.x.length(2, 11, 519) + " " + b.x.length(2, 11, 520)
            + " " + b.x.length(2, 12, 0), "1 1 -1 -1");
    }

    // "the KIND is that before this one (t = 0; 1 at first), the next one (1; behind the last 0), else t - 2"
    private static void eachKindByEachSign() {
        for (int t = 0; t < 14; t++) {
            Bench b = new Bench();
            Bench.Stream s = b.stream().coded(true, 26).row("1 110 110").told(4, t).told(5, 0).put(0, 2);
            twelve(s.row("0 0 00 0000").put(0, 24).row("1 110 110  0"));
            for (int i = 0; i < 768; i++) {
                ofTwelve(s, i / 64);
            }
            s.row("0 0");
            for (int i = 0; i < 12; i++) {
                s.literals('a' + i);
            }
            // INSERT 26 by code 11, whose three bits are 0; each literal but the first is behind a COUNT of 1.
            s.commands(256 + 24).distances(0).put(0, 3).put(0, 50);
            StringBuilder due = new StringBuilder("a");
            for (int i = 1; i < 26; i++) {
                due.append((char) ('a' + (t == 0 ? i % 2 : t == 1 ? i % 12 : t - 2)));
            }
            Bench.due("t = " + t, b.open(s), 26);
            Bench.due("t = " + t + ", out", b.made(), due.toString());
            Bench.due("t = " + t + ", map", b.x.map(0, 63) + " " + b.x.map(0, 64) + " " + b.x.map(0, 767), "0 1 11");
        }
    }

    // "For each KIND of literals its MODE": KIND 1 has each MODE, and the other one another.
    private static void modesOfKinds() {
        // Behind "@0": of the byte 48 and 64 before it.
        int[] contexts = {48, 12, 44 | 1, 8 * 2 + 3};
        for (int mode = 0; mode < 4; mode++) {
            for (int context = 0; context < 64; context++) {
                Bench b = new Bench();
                Bench.Stream s = b.stream().raw("@0").coded(true, 1).row("1 000").told(2, 3).told(5, 0).put(0, 2);
                s.row("0 0 00 0000").put(mode, 2).put(3 - mode, 2).row("1 000  0").told(1, 0, 1);
                s.put(context < 60 ? 1L << context : 0, 60).put(context < 60 ? 0 : 1 << context - 60, 4).put(0, 60).put(0, 4);
                s.row("0 0").literals('A').literals('B').commands(136).distances(0);
                Bench.due("MODE " + mode, b.open(s), 3);
                Bench.due("MODE " + mode + ", context " + context, b.x.out(2), context == contexts[mode] ? 'B' : 'A');
            }
        }
        // A literal of KIND 0 is made first, so that KIND 1 stands behind "0A": of 65 and 48 before it.
        int[] later = {1, 16, 48 | 2, 8 * 3 + 2};
        for (int mode = 0; mode < 4; mode++) {
            Bench b = new Bench();
            Bench.Stream s = b.stream().raw("@0").coded(true, 2).row("1 000").told(2, 3).told(5, 0).put(0, 2);
            s.row("0 0 00 0000").put(3 - mode, 2).put(mode, 2).row("1 000  0").told(1, 0, 1).put(0, 60).put(0, 4);
            int context = later[mode];
            s.put(context < 60 ? 1L << context : 0, 60).put(context < 60 ? 0 : 1 << context - 60, 4);
            s.row("0 0").literals('A').literals('B').commands(144).distances(0).put(0, 2);
            Bench.due("MODE " + mode + " of KIND 1", b.open(s), 4);
            Bench.due("MODE " + mode + " of KIND 1, out", b.made(), "@0AB");
        }
    }

    private static final int[] INSERTS = {
        0, 1, 2, 3, 4, 5, 6, 8, 10, 14, 18, 26, 34, 50, 66, 98, 130, 194, 322, 578, 1090, 2114, 6210, 22594};

    private static int insertCode(int insert) {
        int code = 0;
        while (INSERTS[code + 1] <= insert) {
            code++;
        }
        return code;
    }

    private static int insertBase(int insert) {
        return INSERTS[insertCode(insert)];
    }

    private static int insertBits(int insert) {
        int code = insertCode(insert);
        return 31 - Integer.numberOfLeadingZeros(INSERTS[code + 1] - INSERTS[code]);
    }

    private static int insertSign(int insert) {
        int code = insertCode(insert);
        return (code < 8 ? 128 : code < 16 ? 256 : 448) + code % 8 * 8;
    }

    private static void maps() {
        Bench b = new Bench();
        // Two KINDS of distances, three TREES: the numbers 2 0 1 1, a run of three 0s, 2; not moved.
        Bench.Stream s = b.stream().coded(true, 1).row("0 0  1 000").told(2, 0, 1).told(5, 0).put(0, 2);
        s.row("00 0000 00 0  1 100 0").row("1 0000").told(2, 0, 1, 2, 3).row("0").row("11 00 10 10").row("01 1").row("11");
        Bench.due("not moved", b.open(close(s.row("0"))), 1);
        Bench.due("its map", mapOf(b), "2 0 1 1 0 0 0 2");
        s = b.stream().coded(true, 1).row("0 0  1 000").told(2, 0, 1).told(5, 0).put(0, 2);
        s.row("00 0000 00 0  1 100 0").row("1 0000").told(2, 0, 1, 2, 3).row("0").row("11 00 10 10").row("01 1").row("11");
        Bench.due("moved to the front", b.open(close(s.row("1"))), 1);
        Bench.due("its map", mapOf(b), "2 2 0 2 2 2 2 1");
        Bench.due("trees", b.x.part(0, 5) + " " + b.x.part(0, 6), "1 3");
    }

    // "from 0 on with the row 0, 1, ..: a number is the place in the row, .. and that comes to the front"
    private static void twelveTreesMoved() {
        Bench b = new Bench();
        Bench.Stream s = b.stream().coded(true, 1).row("000 00 0000 00  1 110 110  0").told(4, 11).row("1  0");
        for (int i = 0; i < 12; i++) {
            s.literals('a' + i);
        }
        Bench.due("all 11, moved", b.open(s.commands(136).distances(0)), 1);
        for (int i = 0; i < 64; i++) {
            Bench.due("all 11, moved, map(0, " + i + ")", b.x.map(0, i), 11 - i % 12);
        }
        Bench.due("its TREE is the first", b.made(), "l");
        b = new Bench();
        s = b.stream().coded(true, 1).row("000 00 0000 00  1 110 110  0").told(4, 11).row("0  0");
        for (int i = 0; i < 12; i++) {
            s.literals('a' + i);
        }
        Bench.due("all 11, not moved", b.open(s.commands(136).distances(0)), 1);
        Bench.due("all 11, not moved, map", b.x.map(0, 0) + " " + b.x.map(0, 63), "11 11");
        b = new Bench();
        // By RUNS of 16 (28 signs): number 11 is sign 27, a run of 63 sign 5 and 31; then moved.
        s = b.stream().coded(true, 1).row("000 00 0000 00  1 110 110  1 1111").told(5, 5, 27).row("1 0 11111  1  0");
        for (int i = 0; i < 12; i++) {
            s.literals('a' + i);
        }
        Bench.due("11, then 0s, moved", b.open(s.commands(136).distances(0)), 1);
        Bench.due("11, then 0s, moved, map", b.x.map(0, 0) + " " + b.x.map(0, 1) + " " + b.x.map(0, 63), "11 11 11");
    }

    // "(Without a MAP all is TREE 0.)": also behind PARTS that had MAPS, in this open() and before it.
    private static void mapsAnew() {
        Bench b = new Bench();
        Bench.Stream s = b.stream();
        for (int part = 0; part < 2; part++) {
            s.coded(false, 3).row("000 00 0000 00  1 000  0").told(1, 1).row("0  1 000 0").told(1, 1).row("0")
                .literals('A').literals('B').commands(136).distances(17).distances(16).row("0");
        }
        for (int part = 0; part < 2; part++) {
            s.coded(part == 1, 3).plain().literals('C').commands(136).distances(16).row("0");
        }
        Bench.due("with MAPS and without", b.open(s), 12);
        Bench.due("out", b.made(), "BBBBBBCCCCCC");
        for (int i = 0; i < 64; i++) {
            Bench.due("map(0, " + i + ")", b.x.map(0, i), 0);
        }
        Bench.due("map(1, ..)", b.x.map(1, 0) + " " + b.x.map(1, 3) + " " + b.x.map(1, 4), "0 0 -1");
    }

    // "BAD: none such" of map() and length().
    private static void askedBeyond() {
        Bench b = new Bench();
        b.open(b.stream().coded(true, 1).plain().told(8, 0, 255).told(10, 136, 703).told(6, 0, 63).row("0 0"));
        int[] far = {Integer.MIN_VALUE, -1, Integer.MAX_VALUE};
        for (int v : far) {
            Bench.due("map(0, " + v + ")", b.x.map(0, v), BrotliWords.BAD);
            Bench.due("map(1, " + v + ")", b.x.map(1, v), BrotliWords.BAD);
            Bench.due("map(" + v + ", 0)", b.x.map(v, 0), BrotliWords.BAD);
            Bench.due("length(" + v + ", 0, 0)", b.x.length(v, 0, 0), BrotliWords.BAD);
            for (int sort = 0; sort < 3; sort++) {
                Bench.due("length(" + sort + ", " + v + ", 0)", b.x.length(sort, v, 0), BrotliWords.BAD);
                Bench.due("length(" + sort + ", 0, " + v + ")", b.x.length(sort, 0, v), BrotliWords.BAD);
            }
        }
        Bench.due("map(2, 0), length(3, 0, 0)", b.x.map(2, 0) + " " + b.x.length(3, 0, 0), "-1 -1");
        Bench.due("the last of each", b.x.length(0, 0, 255) + " " + b.x.length(1, 0, 703) + " " + b.x.length(2, 0, 63)
            + " " + b.x.map(0, 63) + " " + b.x.map(1, 3), "1 1 1 0 0");
        Bench.due("the ones behind", b.x.length(0, 0, 256) + " " + b.x.length(1, 0, 704) + " " + b.x.length(2, 0, 64)
            + " " + b.x.map(0, 64) + " " + b.x.map(1, 4), "-1 -1 -1 -1 -1");
        Bench.due("the next TREE", b.x.length(0, 1, 0) + " " + b.x.length(1, 1, 0) + " " + b.x.length(2, 1, 0), "-1 -1 -1");
    }

    private static Bench.Stream close(Bench.Stream s) {
        return s.literals('a').commands(136).distances(0).distances(1).distances(2);
    }

    private static String mapOf(Bench b) {
        StringBuilder map = new StringBuilder();
        for (int i = 0; b.x.map(1, i) != BrotliWords.BAD; i++) {
            map.append(i == 0 ? "" : " ").append(b.x.map(1, i));
        }
        return map.toString();
    }

    private static void shortCodes() {
        Bench b = new Bench();
        Bench.due("two", b.open(b.stream().coded(true, 4).plain().told(8, 'b', 'a').commands(160).distances(5)
            .row("0 1 1 0")), 4);
        Bench.due("two, out", b.made(), "abba");
        Bench.due("two, lengths", lengths(b, "abcd"), "1 1 0 0");
        Bench.due("a lone one", b.x.length(1, 0, 160) + " " + b.x.length(2, 0, 5), "0 0");
        Bench.due("three", b.open(b.stream().coded(true, 4).plain().told(8, 'c', 'b', 'a').commands(160).distances(0)
            .row("0 10 11 0")), 4);
        Bench.due("three, out", b.made(), "cabc");
        Bench.due("three, lengths", lengths(b, "abcd"), "2 2 1 0");
        Bench.due("four", b.open(b.stream().coded(true, 4).plain().told(8, 'd', 'c', 'b', 'a').row("0")
            .commands(160).distances(0).row("00 01 10 11")), 4);
        Bench.due("four, out", b.made(), "abcd");
        Bench.due("four, lengths", lengths(b, "abcd"), "2 2 2 2");
        Bench.due("four with t", b.open(b.stream().coded(true, 4).plain().told(8, 'd', 'c', 'b', 'a').row("1")
            .commands(160).distances(0).row("0 10 110 111")), 4);
        Bench.due("four with t, out", b.made(), "dcab");
        Bench.due("four with t, lengths", lengths(b, "abcd"), "3 3 2 1");
        Bench.due("length(0, 0, 256)", b.x.length(0, 0, 256), BrotliWords.BAD);
        Bench.due("length(0, 0, -1)", b.x.length(0, 0, -1), BrotliWords.BAD);
        Bench.due("length(0, 1, 0)", b.x.length(0, 1, 0), BrotliWords.BAD);
        Bench.due("length(0, -1, 0)", b.x.length(0, -1, 0), BrotliWords.BAD);
        Bench.due("length(3, 0, 0)", b.x.length(3, 0, 0), BrotliWords.BAD);
        Bench.due("length(-1, 0, 0)", b.x.length(-1, 0, 0), BrotliWords.BAD);
        Bench.due("length(1, 0, 703)", b.x.length(1, 0, 703), 0);
        Bench.due("length(1, 0, 704)", b.x.length(1, 0, 704), BrotliWords.BAD);
        Bench.due("length(2, 0, 63)", b.x.length(2, 0, 63), 0);
        Bench.due("length(2, 0, 64)", b.x.length(2, 0, 64), BrotliWords.BAD);
    }

    private static String lengths(Bench b, String signs) {
        StringBuilder lengths = new StringBuilder();
        for (int i = 0; i < signs.length(); i++) {
            lengths.append(i == 0 ? "" : " ").append(b.x.length(0, 0, signs.charAt(i)));
        }
        return lengths.toString();
    }

    private static void longCodes() {
        Bench b = new Bench();
        // Marks 0, 1, 2, 17 of two bits each; 97 zeros by 17 17 0 17 17, then 1, 2, 2.
        Bench.Stream s = b.stream().coded(true, 4).plain().row("00 110 110 00 00 110 00 110")
            .row("11 111  11 111  00  11 100  11 110  01 10 10").commands(160).distances(0).row("11 10 0 0");
        Bench.due("zeros by 17", b.open(s), 4);
        Bench.due("zeros by 17, out", b.made(), "cbaa");
        Bench.due("zeros by 17, lengths", lengths(b, "`abcd"), "0 1 2 2 0");
        // Marks 8 and 16 of one bit each; 16 at first means 8.
        String chain = "1 11  1 11  1 11  0";
        s = b.stream().coded(true, 4).plain().row("00 00 00 00 00 00 00 00 00 1110 00 1110")
            .row(chain).row(chain).row("1 11  1 01  1 11").commands(160).distances(0)
            .row("01100001 00000000 11111111 01100010");
        Bench.due("256 of 8 by 16", b.open(s), 4);
        Bench.due("256 of 8 by 16, out", b.made(), "a\u0000\u00ffb");
        for (int i = 0; i < 256; i++) {
            Bench.due("length(0, 0, " + i + ")", b.x.length(0, 0, i), 8);
        }
        // A lone mark has 0 bits: all signs have LENGTH 3 till the sum is reached; without the first two marks.
        s = b.stream().coded(true, 4).plain().row("01 1111 00 00 00 00 00 00 00 00 00 00 00 00 00 00 00")
            .commands(160).distances(0).row("000 111 010 001");
        Bench.due("a lone mark", b.open(s), 4);
        Bench.due("a lone mark, out", b.made(), "\u0000\u0007\u0002\u0001");
        Bench.due("a lone mark, lengths", b.x.length(0, 0, 7) + " " + b.x.length(0, 0, 8), "3 0");
        // Marks 0, 2 and 16: behind a 0 the latest that was not 0 is told again.
        s = b.stream().coded(true, 4).plain().row("00 00 1110 00 00 110 00 00 00 110")
            .row("0 10 11 00").commands(160).distances(0).row("00 01 10 11");
        Bench.due("16 behind a 0", b.open(s), 4);
        Bench.due("16 behind a 0, out", b.made(), "\u0000\u0002\u0003\u0004");
        // LENGTHS 1 .. 14 and twice 15, each by its mark; marks of four bits but 15, of five.
        s = b.stream().coded(true, 4).plain().row("00 10 10 10 10 00 10 00 10 00 10 10 10 10 10 10 10 10 1111 ");
        Bench.due("marks of a sum below 32", b.open(s.put(0, 64)), -23);
        s = b.stream().coded(true, 2).plain().row("00 10 10 10 10 00 10 10 10 00 10 10 10 10 10 10 10 10 10");
        for (int n = 1; n <= 15; n++) {
            s.row(Integer.toBinaryString(16 + n - 1).substring(1));
        }
        s.row("1110").commands(144).distances(0).row("111111111111111 10");
        Bench.due("LENGTHS up to 15", b.open(s), 2);
        Bench.due("LENGTHS up to 15, out", b.made(), "\u000f\u0001");
        for (int sign = 0; sign < 17; sign++) {
            Bench.due("LENGTHS up to 15, length of " + sign, b.x.length(0, 0, sign), sign < 15 ? sign + 1 : sign == 15 ? 15 : 0);
        }
    }

    // "0 (a lone one, too)": also where the CODES before it had LENGTHS.
    private static void loneAnew() {
        Bench b = new Bench();
        for (int turn = 0; turn < 3; turn++) {
            b.open(b.stream().coded(true, 1).plain().told(8, 'a', 'b').commands(136, 137).distances(0, 1).row("0 0"));
            Bench.due("two signs", b.x.length(0, 0, 'a') + " " + b.x.length(1, 0, 136) + " " + b.x.length(2, 0, 1), "1 1 1");
        }
        for (int turn = 0; turn < 3; turn++) {
            Bench.due("open", b.open(b.stream().coded(true, 1).plain().literals('a').commands(136).distances(1)), 1);
            Bench.due("a lone one", b.x.length(0, 0, 'a') + " " + b.x.length(1, 0, 136) + " " + b.x.length(2, 0, 1), "0 0 0");
            Bench.due("others", b.x.length(0, 0, 'b') + " " + b.x.length(1, 0, 137) + " " + b.x.length(2, 0, 0), "0 0 0");
        }
    }

    /** A CODE in which each of a signs is there: the first ones have n bits, the others one more. */
    private static Bench.Stream full(Bench.Stream s, int a) {
        int n = 31 - Integer.numberOfLeadingZeros(a);
        int first = (2 << n) - a;
        String order = "1 2 3 4 0 5 17 6 16 7 8 9 10";
        s.row("00");
        for (String mark : order.split(" ")) {
            if (Integer.parseInt(mark) <= n + 1 || n > 4) {
                s.row(mark.equals("" + n) || mark.equals("" + (n + 1)) ? "1110" : "00");
            }
            if (mark.equals("" + (n + 1))) {
                break;
            }
        }
        return s.row("0".repeat(first)).row("1".repeat(a - first));
    }

    private static Bench.Stream ofFull(Bench.Stream s, int a, int sign) {
        int n = 31 - Integer.numberOfLeadingZeros(a);
        int first = (2 << n) - a;
        return s.row(Integer.toBinaryString(sign < first ? (1 << n) + sign : (2 << n) + 2 * first + sign - first).substring(1));
    }

    // The greatest CODES: all of 14 and 26 signs of KINDS and COUNTS, 28 of a MAP, 704 commands, 520 distances.
    private static void allSignsThere() {
        Bench b = new Bench();
        Bench.Stream s = b.stream().coded(true, 2);
        // At first a COUNT of one by sign 0; KIND 11 comes second, by t = 13.
        for (int sort = 0; sort < 3; sort++) {
            full(full(s.row("1 110 110"), 14), 26);
            ofFull(s, 26, 0).put(0, 2);
        }
        s.row("11 1111").put(0, 24);
        // RUNS 16 and 12 TREES: 704 0s by sign 9, then 64 times number 11, that is sign 27; of distances 44 and 4.
        full(s.row("1 110 110  1 1111"), 28);
        ofFull(s, 28, 9).put(704 - 512, 9);
        for (int i = 0; i < 64; i++) {
            ofFull(s, 28, 27);
        }
        full(s.row("0  1 110 110  1 1111"), 28);
        ofFull(s, 28, 5).put(44 - 32, 5);
        for (int i = 0; i < 4; i++) {
            ofFull(s, 28, 27);
        }
        s.row("0");
        for (int i = 0; i < 12; i++) {
            s.literals(i == 11 ? 'Z' : 'A');
        }
        for (int i = 0; i < 11; i++) {
            s.commands(144);
        }
        full(s, 704);
        for (int i = 0; i < 11; i++) {
            s.told(10, 16);
        }
        full(s, 520);
        ofFull(s, 14, 13);
        ofFull(s, 26, 0).put(0, 2);
        Bench.due("all signs", b.open(s), 2);
        Bench.due("out", b.made(), "AZ");
        Bench.due("part", b.part(0), "3 2 12 12 12 12 12 3 120 1 0 0");
        Bench.due("lengths", b.x.length(1, 11, 319) + " " + b.x.length(1, 11, 320) + " " + b.x.length(1, 11, 703) + " "
            + b.x.length(2, 11, 503) + " " + b.x.length(2, 11, 504) + " " + b.x.length(2, 11, 519), "9 10 10 9 10 10");
        Bench.due("maps", b.x.map(0, 703) + " " + b.x.map(0, 704) + " " + b.x.map(1, 43) + " " + b.x.map(1, 44), "0 11 0 11");
    }

    /** CODES of all 704 and 520 signs, of which the last one is read. */
    private static void lastOfAllSigns() {
        Bench b = new Bench();
        Bench.Stream s = b.lead(0).coded(false, 2992).row("000 11 1111 00 00").literals('x');
        // INSERT 22,594 and COPY 2,118, by 24 bits each.
        b.broken("command 703", ofFull(full(full(s, 704), 520), 704, 703).put(0, 48), 8);
        b = new Bench();
        s = b.lead(0).coded(false, 2992).row("000 11 1111 00 00").literals('x');
        full(full(s, 704), 520);
        // INSERT 1, COPY 4 by the last distance; then COPY 2 by the greatest distance, and no word has that LENGTH.
        ofFull(ofFull(ofFull(s, 704, 10), 704, 128), 520, 519).put(-1, 24);
        b.broken("distance sign 519", s, 10);
    }

    private static void latestPartWithCodes() {
        Bench b = new Bench();
        Bench.due("the second part's CODES are broken", b.open(b.stream()
            .coded(false, 1).plain().told(8, 'a', 'b').commands(136).distances(0).row("0")
            .coded(true, 1).plain().told(8, 'c', 'd').commands(136).row("10").put(1, 2).put(7, 6).put(7, 6).put(0, 32)), -22);
        Bench.due("the first one's are told", lengths(b, "abcd"), "1 1 0 0");
        Bench.due("map", b.x.map(0, 63), 0);
        Bench.due("the second part's commands are broken", b.open(b.stream()
            .coded(false, 1).plain().told(8, 'a', 'b').commands(136).distances(0).row("0")
            .coded(true, 1).plain().told(8, 'c', 'd').commands(144).distances(0).put(0, 32)), -18);
        Bench.due("the second one's are told", lengths(b, "abcd"), "0 0 1 1");
        Bench.due("a raw part keeps them", b.open(b.stream()
            .coded(false, 1).plain().told(8, 'a', 'b').commands(136).distances(0).row("0").raw("x").empty()), 2);
        Bench.due("they are told", lengths(b, "abcd"), "1 1 0 0");
        Bench.due("another open()", b.open(b.stream().raw("x").empty()), 1);
        Bench.due("has none", b.x.length(0, 0, 'a') + " " + b.x.map(0, 0), "-1 -1");
    }
}
