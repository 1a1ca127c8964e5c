/** Promise 12 where a RULE is broken: which one, how many bits were read, and what part() tells then. */
final class RulesTest {
    // Commands that copy 2: of 0, 1 and 2 literals ahead; and that copy 4 behind 0 or 1.
    private static final int NONE_COPY_2 = 128, ONE_COPY_2 = 136, TWO_COPY_2 = 144;
    private static final int NONE_COPY_4 = 130, ONE_COPY_4 = 138;

    public static void main(String[] args) {
        endsEarly();
        wrongHead();
        wrongSort();
        idleNumbers();
        filledBits();
        tooMany();
        beyondLength();
        noDistance();
        noWord();
        noChange();
        wrongSigns();
        wrongMarks();
        wrongLengths();
        runBeyondMap();
        bytesLeft();
        tooMuchOut();
        Bench.finish("RulesTest");
    }

    private static void endsEarly() {
        Bench b = new Bench();
        Bench.due("open() of nothing", b.x.open(), -11);
        Bench.due("read() of nothing", b.x.read(), 0);
        String text = "some text, some more text, and some of it again";
        int size = b.text(text).x.pack(2);
        String packed = b.made();
        for (int cut = 0; cut < size; cut++) {
            Bench part = new Bench().text(packed.substring(0, cut));
            Bench.due("open() cut to " + cut, part.x.open(), -11);
            Bench.due("read() cut to " + cut, part.x.read(), 8 * cut);
            Bench.due("count(2) cut to " + cut, part.x.count(2), 0);
        }
        Bench raw = new Bench();
        Bench.due("raw bytes missing", raw.open(raw.stream().row("0 00").put(9, 16).row("1").fill().put(0, 24)), -11);
        Bench.due("raw bytes missing, read()", raw.x.read(), 64);
        Bench.due("raw bytes missing, part", raw.part(0), "2 10 0 0 0 0 0 0 0 0 0 0");
        Bench over = new Bench();
        Bench.due("passed bytes missing", over.open(over.stream().row("0 11 0").put(1, 2).put(9, 8).fill().put(0, 24)), -11);
        Bench.due("passed bytes missing, read()", over.x.read(), 56);
        Bench.due("passed bytes missing, part", over.part(0), "1 10 0 0 0 0 0 0 0 0 0 0");
    }

    private static void wrongHead() {
        Bench b = new Bench();
        b.broken("digest", new Bench.Stream().put(b.x.digest() ^ 0x8000, 16), 2);
        Bench worded = new Bench().words("abcd");
        worded.broken("digest without the word", new Bench.Stream().put(40293, 16), 2);
        b.broken("span", new Bench.Stream().put(b.x.digest(), 16).row("1 000 100"), 3);
        Bench.due("no part", b.x.count(3), 0);
    }

    private static void wrongSort() {
        Bench b = new Bench();
        b.broken("passed over and last", b.stream().row("1 0 11"), 4);
        Bench.due("passed over and last, count(3)", b.x.count(3), 0);
        b.broken("passed over without its 0", b.stream().row("0 11 1"), 4);
        Bench.due("passed over without its 0, count(3)", b.x.count(3), 1);
        Bench.due("passed over without its 0, part", b.part(0), "1 0 0 0 0 0 0 0 0 0 0 0");
    }

    private static void idleNumbers() {
        Bench b = new Bench();
        b.broken("fifth nibble", b.stream().row("0 10").put(0x0FFFF, 20), 5);
        b.broken("sixth nibble", b.stream().row("1 0 01").put(0x0FFFFF, 24), 5);
        Bench.due("sixth nibble, count(3)", b.x.count(3), 0);
        b.broken("second byte", b.stream().row("0 11 0").put(2, 2).put(0x00FF, 16), 5);
        b.broken("third byte", b.stream().row("0 11 0").put(3, 2).put(0x00FFFF, 24), 5);
        Bench.due("third byte, count(3)", b.x.count(3), 1);
        Bench.due("one byte may be 0", b.open(b.stream().row("0 11 0").put(1, 2).put(0, 8).fill().put(255, 8).empty()), 0);
        Bench.due("four nibbles may end with 0", b.open(b.stream().raw("x").empty()), 1);
    }

    private static void filledBits() {
        Bench b = new Bench();
        b.broken("behind the last part", b.stream().row("11 10000"), 6);
        b.broken("behind the last part, at the end", b.stream().row("11 00001"), 6);
        b.broken("passed over", b.stream().row("0 11 0 00 1"), 6);
        b.broken("passed over with a number", b.stream().row("0 11 0").put(1, 2).put(7, 8).row("1"), 6);
        b.broken("raw", b.stream().row("0 00").put(3, 16).row("1 010"), 6);
        Bench.due("raw, part", b.part(0), "2 4 0 0 0 0 0 0 0 0 0 0");
    }

    private static void tooMany() {
        Bench b = new Bench();
        String many = "1 110 001";
        b.broken("kinds of literals", b.stream().coded(true, 1).row(many), 7);
        Bench.due("kinds of literals, part", b.part(0), "3 1 0 0 0 0 0 0 0 0 0 0");
        b.broken("kinds of commands", b.stream().coded(true, 1).row("0" + many), 7);
        b.broken("kinds of distances", b.stream().coded(false, 1).row("00" + many), 7);
        Bench.due("kinds of distances, part", b.part(0), "3 1 1 1 0 0 0 0 0 0 0 0");
        b.broken("trees of literals", b.stream().coded(true, 1).row("000 11 1111 00" + many), 7);
        Bench.due("trees of literals, part", b.part(0), "3 1 1 1 1 0 0 3 120 0 0 0");
        b.broken("trees of distances", b.stream().coded(true, 1).row("000 10 1000 00 0" + many), 7);
        Bench.due("trees of distances, part", b.part(0), "3 1 1 1 1 1 0 1 2 0 0 0");
        b.broken("far too many", b.stream().coded(true, 1).row("1 111 0000000"), 7);
    }

    private static void beyondLength() {
        Bench b = new Bench();
        b.broken("insert", b.stream().coded(true, 1).plain().literals('a').commands(TWO_COPY_2).distances(0), 8);
        Bench.due("insert, part", b.part(0), "3 1 1 1 1 1 1 0 0 1 0 0");
        b.broken("insert, behind both numbers' bits", b.stream().coded(true, 6).plain()
            .literals('a').commands(240).distances(0).row("1 0"), 8);
        b.broken("copy", b.stream().coded(true, 3).plain()
            .literals('a').commands(ONE_COPY_4).distances(16).row("0"), 8);
        Bench.due("copy, part", b.part(0), "3 3 1 1 1 1 1 0 0 1 0 0");
        Bench.due("copy, ring", b.ring(), "4 11 15 16");
        int[] bases = {6210, 22594};
        int[] bits = {14, 24};
        for (int i = 0; i < 2; i++) {
            b.broken("insert " + bases[i], b.stream().coded(true, 3000).plain().literals('a')
                .commands(448 + 48 + 8 * i).distances(0).put(0, bits[i]), 8);
        }
        b.broken("copy by 24 bits", b.stream().coded(true, 3000).plain().literals('a')
            .commands(384 + 8 + 7).distances(16).put(3000 - 2118, 24).row("0"), 8);
        Bench w = new Bench().words("abcd");
        w.broken("word", w.stream().coded(true, 5).plain()
            .literals('a').commands(NONE_COPY_4).distances(20).put(6, 3), 8);
        w.broken("a word behind bytes", w.stream().raw("xyz").coded(true, 3).plain()
            .literals('a').commands(NONE_COPY_4).distances(0), 8);
        Bench.due("a word that just fits", w.open(w.stream().coded(true, 6).plain()
            .literals('a').commands(NONE_COPY_4).distances(20).put(6, 3)), 6);
        Bench.due("its bytes", w.made(), "abcd, ");
        Bench.due("a copy of another part's LENGTH", b.open(b.stream().coded(true, 5).plain()
            .literals('a').commands(ONE_COPY_4).distances(16).row("0")), 5);
    }

    private static void noDistance() {
        Bench b = new Bench();
        for (int sign : new int[] {4, 6, 8}) {
            b.broken("sign " + sign, b.stream().coded(true, 10).plain().literals('a')
                .commands(NONE_COPY_2, TWO_COPY_2).distances(sign, 16).row("1 1 0  0 0"), 9);
            Bench.due("sign " + sign + ", part", b.part(0), "3 10 1 1 1 1 1 0 0 2 1 0");
            Bench.due("sign " + sign + ", ring", b.ring(), "1 4 11 15");
        }
        b.broken("of the second last", b.stream().coded(true, 12).plain().literals('a')
            .commands(NONE_COPY_2, TWO_COPY_2).told(6, 10, 16, 17).row("1 10 0  0 11 0  0 0"), 9);
        Bench.due("of the second last, ring", b.ring(), "3 1 4 11");
    }

    private static void noWord() {
        Bench b = new Bench();
        b.broken("no words", b.stream().coded(true, 9).plain().literals('a').commands(NONE_COPY_4).distances(0), 10);
        Bench w = new Bench().words("abcd", "efgh", "ijkl");
        w.broken("number 3 of three", w.stream().coded(true, 9).plain().literals('a').commands(NONE_COPY_4).distances(0), 10);
        w.broken("number 3, no change", w.stream().coded(true, 9).plain().literals('a').commands(NONE_COPY_4)
            .distances(27).put(0xFF, 6), 10);
        w.broken("no such LENGTH", w.stream().coded(true, 9).plain().literals('a').commands(NONE_COPY_2).distances(0), 10);
        w.broken("LENGTH 11", w.stream().coded(true, 20).plain().literals('a').commands(192).distances(0).row("1"), 10);
        w.broken("a LENGTH without words", w.stream().coded(true, 9).plain().literals('a').commands(131).distances(0), 10);
        w.broken("too far, and sign 0 in cell 0", w.stream().coded(true, 9).plain().literals('a').commands(2).distances(0), 10);
        Bench.due("ahead of RULE 8", w.open(w.stream().coded(true, 2).plain().literals('a').commands(NONE_COPY_4).distances(0)), -20);
    }

    private static void noChange() {
        Bench b = new Bench().words("abcd");
        b.broken("change 24", b.stream().coded(true, 9).plain().literals('a').commands(NONE_COPY_4)
            .distances(21).put(4, 3), 11);
        b.broken("change 24, ahead of RULE 8", b.stream().coded(true, 1).plain().literals('a').commands(NONE_COPY_4)
            .distances(21).put(4, 3), 11);
        Bench.due("change 23", b.open(b.stream().coded(true, 4).plain().literals('a').commands(NONE_COPY_4)
            .distances(21).put(3, 3)), 4);
        Bench.due("its bytes", b.made(), "ab, ");
    }

    private static void wrongSigns() {
        Bench b = new Bench();
        b.broken("a second time", b.stream().coded(true, 1).plain().row("10").put(3, 2).put(97, 8).put(98, 8).put(97, 8), 12);
        b.broken("not below 704", b.stream().coded(true, 1).plain().literals('a').row("10").put(2, 2).put(704, 10), 12);
        b.broken("not below 65", b.stream().coded(true, 1).row("000 00 1000 00 0 0").literals('a').commands(1).row("10")
            .put(1, 2).put(64, 7).put(65, 7), 12);
        b.broken("not below 5", b.stream().coded(true, 1).row("1 100 0").row("10").put(0, 2).put(5, 3), 12);
        Bench.due("no part has all its CODES", b.x.length(0, 0, 0), BrotliWords.BAD);
    }

    private static void wrongMarks() {
        Bench b = new Bench();
        String none = "00 00 00 00 00 00 00 00 00 00 00 00 00 00 00 00";
        b.broken("none", b.stream().coded(true, 1).plain().row("00 00 00" + none), 13);
        b.broken("none without the first two", b.stream().coded(true, 1).plain().row("01" + none), 13);
        b.broken("above 32", b.stream().coded(true, 1).plain().row("00 1110 110 1110"), 13);
        b.broken("below 32", b.stream().coded(true, 1).plain().row("00 01 10" + none), 13);
        b.broken("below 32 without the first three", b.stream().coded(true, 1).plain()
            .row("11 1111 1110" + none.substring(9)), 13);
    }

    private static void wrongLengths() {
        Bench b = new Bench();
        String zeros = " 00 00 00 00 00 00 00 00 00 00 00 00 00 00 00";
        b.broken("a lone LENGTH of 0", b.stream().coded(true, 1).plain().row("00 00 00 00 00 1110" + zeros.substring(6)), 14);
        b.broken("a sum above", b.stream().coded(true, 1).plain().row("00 1110 1110   0 1 0"), 14);
        b.broken("a sum below", b.stream().coded(true, 1).plain().row("00 1110 00 00 00 1110")
            .row("1").put(0, 255), 14);
        b.broken("more than there are, by 17", b.stream().coded(true, 1).plain()
            .row("00 00 00 00 00 00 00 1110" + zeros.substring(12)).row("111 111 000"), 14);
        b.broken("more than there are, by 16", b.stream().coded(true, 1).plain()
            .row("00 00 00 00 00 00 00 00 00 1110" + zeros.substring(18)).row("11 11 11 00"), 14);
    }

    private static void runBeyondMap() {
        Bench b = new Bench();
        // TREES 2, RUNS 6, a CODE of 8 signs that has the sign 6 alone: 64 and so many 0s.
        String head = "000 00 0000 00  1 000  1 1010  10 00 011";
        b.broken("a run of 65", b.stream().coded(true, 1).row(head).put(1, 6), 15);
        Bench.due("a run of 64", b.open(b.stream().coded(true, 1).row(head).put(0, 6).row("0 0")
            .literals('x').literals('y').commands(ONE_COPY_2).distances(0)), 1);
        Bench.due("map(0, 63)", b.x.map(0, 63), 0);
        Bench.due("map(0, 64)", b.x.map(0, 64), BrotliWords.BAD);
    }

    private static void bytesLeft() {
        Bench b = new Bench();
        b.broken("behind EMPTY", b.stream().empty(), 16);
        b.broken("behind a coded part", b.stream().coded(true, 1).plain().literals('a').commands(ONE_COPY_2).distances(0).fill(), 16);
        Bench.due("its part", b.part(0), "3 1 1 1 1 1 1 0 0 1 0 0");
    }

    private static void tooMuchOut() {
        Bench b = new Bench();
        b.broken("3,001", b.stream().row("0 00").put(3000, 16), 17);
        b.broken("3,001 that are last", b.stream().row("10 00").put(3000, 16), 17);
        b.broken("by five nibbles", b.stream().row("10 10").put(0x10000, 20), 17);
        b.broken("in two parts", b.stream().raw("ab").row("0 00").put(2998, 16), 17);
        Bench.due("in two parts, count(3)", b.x.count(3), 1);
        Bench.due("3,000", b.open(b.stream().coded(true, 3000).plain().literals('a')
            .commands(488).distances(0).put(3000 - 2114, 12)), 3000);
        Bench.due("3,000, out", b.x.out(2999), 'a');
        Bench.due("3,000, pass", b.x.pass(), BrotliWords.FULL);
    }
}
