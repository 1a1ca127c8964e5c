/** Promises 12, 15 to 19: each RULE by the bit that breaks it and the one before; what each bit of a PART tells. */
final class EdgeBitsTest {
    private static final int NONE_COPY_2 = 128, ONE_COPY_4 = 138, NONE_COPY_4 = 130, SIX_COPY_10 = 240;
    private static final String NO_PART = "-1 -1 -1 -1 -1 -1 -1 -1 -1 -1 -1 -1";

    /** What stands behind a PART of eight bytes ("aa.."); what is asked is about its last bit. */
    interface Tail {
        Bench.Stream behind(Bench.Stream lead);
    }

    public static void main(String[] args) {
        digest();
        span();
        passedOver();
        idleNumbers();
        filledBits();
        howMany();
        insertBeyond();
        copyBeyond();
        wordBeyond();
        distanceNotAbove();
        wordNumbers();
        changes();
        toldSigns();
        toldTwice();
        marks();
        lengths();
        runs();
        bytesLeft();
        mostOut();
        rulesInTheirOrder();
        sortIsSure();
        headIsTold();
        commandsAreTold();
        codesAreTold();
        ringIsTold();
        Bench.finish("EdgeBitsTest");
    }

    /** The last bit of the tail breaks a RULE, whatever stands behind it; the bit before does not. */
    private static void breaks(String what, int rule, Tail tail, String... words) {
        for (int by = 0; by < 8; by++) {
            Bench b = new Bench().words(words);
            Bench.Stream s = tail.behind(b.lead(by));
            int n = s.size();
            if (n % 8 == 1) {
                Bench.due(what + ", the bit before", b.open(s.cut(n - 1)), -11);
                Bench.due(what + ", the bit before, read()", b.x.read(), n - 1);
            }
            for (int more = 0; more < 3; more++) {
                Bench.Stream longer = s.cut(n).put(more == 2 ? -1 : 0, more == 0 ? 0 : 40);
                Bench.due(what, b.open(longer), -10 - rule);
                Bench.due(what + ", read()", b.x.read(), n);
                Bench.due(what + ", OUT", b.x.count(2) + " " + b.x.out(0), "0 -1");
                Bench.due(what + ", TAPE", b.x.count(1), 0);
            }
        }
    }

    /** No RULE is broken by the tail: where the TAPE ends with it, more is wanted. */
    private static void goesOn(String what, Tail tail, String... words) {
        for (int by = 0; by < 8; by++) {
            Bench b = new Bench().words(words);
            Bench.Stream s = tail.behind(b.lead(by));
            if (s.size() % 8 == 0) {
                Bench.due(what, b.open(s), -11);
                Bench.due(what + ", read()", b.x.read(), s.size());
            }
        }
    }

    private static Bench.Stream plain(Bench.Stream s, int length) {
        return s.coded(false, length).plain();
    }

    // "2 DIGEST": all 16 bits are read, and each of them counts.
    private static void digest() {
        for (int bit = 0; bit < 16; bit++) {
            Bench b = new Bench();
            b.broken("digest, bit " + bit, new Bench.Stream().put(40293 ^ 1 << bit, 16), 2);
            Bench.due("digest alone, bit " + bit, b.open(new Bench.Stream().put(40293 ^ 1 << bit, 16)), -12);
            Bench.due("half a digest, bit " + bit, b.open(new Bench.Stream().put(40293 ^ 1 << bit, 8)), -11);
            Bench.due("half a digest, read()", b.x.read(), 8);
        }
        Bench b = new Bench();
        Bench.due("digest and nothing more", b.open(new Bench.Stream().put(40293, 16)), -11);
        Bench.due("digest and nothing more, read()", b.x.read(), 16);
    }

    // "SPAN: a bit 0: 16; else 3 bits w, not 0: 17 + w; else 3 bits more: 0: 17, 1: RULE 3, else 8 + them."
    private static void span() {
        for (int w = 1; w < 8; w++) {
            Bench b = new Bench();
            Bench.due("span by w " + w, b.open(new Bench.Stream().put(40293, 16).row("1").put(w, 3).empty()), 0);
            Bench.due("span by w " + w + ", read()", b.x.read(), 24);
        }
        for (int more = 0; more < 8; more++) {
            Bench b = new Bench();
            Bench.Stream s = new Bench.Stream().put(40293, 16).row("1 000").put(more, 3);
            if (more == 1) {
                b.broken("span by 1 more", s, 3);
            } else {
                Bench.due("span by more " + more, b.open(s.empty()), 0);
                Bench.due("span by more " + more + ", read()", b.x.read(), 32);
            }
        }
        range(10, "010", 1008);
        range(11, "110", 2032);
    }

    /** "RANGE is 2^SPAN less 16": so far back is a copy, one more is a word, though OUT has more bytes. */
    private static void range(int span, String bits, int range) {
        for (int over = 0; over < 2; over++) {
            Bench b = new Bench().words("word");
            int distance = range + over;
            int n = 30 - Integer.numberOfLeadingZeros(distance + 3);
            int sign = 16 + 2 * (n - 1) + (distance + 3 >> n & 1);
            Bench.Stream s = new Bench.Stream().put(b.x.digest(), 16).row("1 000" + bits)
                .coded(false, 2500).plain().literals('x').commands(488).distances(0).put(2500 - 2114, 12)
                .coded(true, 4).plain().literals('x').commands(NONE_COPY_4).distances(sign).put(distance + 3, n);
            Bench.due("span " + span + ", distance " + distance, b.open(s), 2504);
            Bench.due("span " + span + ", distance " + distance + ", last", b.x.out(2503), over == 0 ? 'x' : 'd');
            Bench.due("span " + span + ", distance " + distance + ", copies", b.x.part(1, 10), 1 - over);
            Bench.due("span " + span + ", distance " + distance + ", ring(0)", b.x.ring(0), over == 0 ? range : 4);
        }
    }

    // "it is PASSED OVER (not, if LAST: RULE 4): a bit 0 (RULE 4)"
    private static void passedOver() {
        breaks("LAST and passed over", 4, s -> s.row("1 0 11"));
        goesOn("LAST and of six nibbles", s -> s.row("1 0 01"));
        goesOn("passed over", s -> s.row("0 11"));
        breaks("passed over without a 0", 4, s -> s.row("0 11 1"));
        goesOn("passed over with a 0", s -> s.row("0 11 0"));
    }

    // "RULE 5, if s is above 1 and the last of them is 0"; "if there are more than four, and the last one is 0".
    private static void idleNumbers() {
        breaks("two bytes, the last 0", 5, s -> s.row("0 11 0 01").put(0x00FF, 16));
        breaks("two bytes of 0", 5, s -> s.row("0 11 0 01").put(0, 16));
        goesOn("two bytes, the last 1", s -> s.row("0 11 0 01").put(0x0100, 16));
        breaks("three bytes, the last 0", 5, s -> s.row("0 11 0 11").put(0x00FFFF, 24));
        goesOn("three bytes, the last 1", s -> s.row("0 11 0 11").put(0x010000, 24));
        goesOn("one byte of 0", s -> s.row("0 11 0 10").put(0, 8));
        breaks("five nibbles, the last 0", 5, s -> s.row("0 10").put(0x0FFFF, 20));
        breaks("five nibbles, LAST, the last 0", 5, s -> s.row("1 0 10").put(0x00003, 20));
        breaks("six nibbles, the last 0", 5, s -> s.row("0 01").put(0x0FFFFF, 24));
        breaks("six nibbles, LAST, the last 0", 5, s -> s.row("1 0 01").put(0x000003, 24));
        goesOn("four nibbles, the last 0", s -> s.row("0 00").put(0x0003, 16));
        goesOn("four nibbles, LAST, all 0", s -> s.row("1 0 00").put(0, 16));
    }

    // "6 0s to a whole byte that are not all 0": each place where they stand, each of their bits.
    private static void filledBits() {
        Tail[] ahead = {
            s -> s.row("11"),
            s -> s.row("0 11 0 00"),
            s -> s.row("0 11 0 10").put(4, 8),
            s -> s.row("0 00").put(3, 16).row("1"),
            s -> s.coded(true, 1).plain().literals('x').commands(136).distances(0)};
        for (int place = 0; place < ahead.length; place++) {
            for (int by = 0; by < 8; by++) {
                Bench b = new Bench();
                Bench.Stream s = ahead[place].behind(b.lead(by));
                int n = s.size();
                int zeros = (8 - n % 8) % 8;
                for (int bit = 0; bit < zeros; bit++) {
                    Bench.due("place " + place + ", bit " + bit, b.open(s.cut(n).put(1 << bit, zeros)), -16);
                    Bench.due("place " + place + ", bit " + bit + ", read()", b.x.read(), n + zeros);
                }
                boolean last = place == 0 || place == 4;
                int due = place == 0 ? 8 : place == 4 ? 9 : -11;
                Bench.due("place " + place + ", all 0", b.open(s.cut(n).put(0, zeros)), due);
                Bench.due("place " + place + ", all 0, read()", b.x.read(), n + zeros);
                Bench.due("place " + place + ", a 1 in the next byte", b.open(s.cut(n).put(0, zeros).put(1, 8)), last ? -26 : -11);
                Bench.due("place " + place + ", a 1 in the next byte, read()", b.x.read(), n + zeros + (last ? 0 : 8));
            }
        }
    }

    // "7 KINDS, TREES above 12"; "a bit 0: 1; else 3 bits n, then n bits: 1 + 2^n and these; 12 at most".
    private static void howMany() {
        Tail[] ahead = {
            s -> s.coded(false, 1),
            s -> s.coded(false, 1).row("0"),
            s -> s.coded(true, 1).row("00"),
            s -> s.coded(false, 1).row("000 00 0000 00"),
            s -> s.coded(true, 1).row("000 11 1111 01 0")};
        int[] facts = {2, 3, 4, 5, 6};
        for (int place = 0; place < ahead.length; place++) {
            Tail here = ahead[place];
            for (int many = 1; many <= 13; many++) {
                int n = many == 1 ? 0 : 31 - Integer.numberOfLeadingZeros(many - 1);
                int e = many - 1 - (1 << n);
                boolean one = many == 1;
                Tail tail = s -> one ? here.behind(s).row("0") : here.behind(s).row("1").put(n, 3).put(e, n);
                if (many <= 12) {
                    goesOn(many + " at place " + place, tail);
                    tells(many + " at place " + place, tail, facts[place], 0, many);
                } else {
                    breaks(many + " at place " + place, 7, tail);
                    tells(many + " at place " + place, tail, facts[place], 0, 0);
                }
            }
            for (int n = 4; n < 8; n++) {
                int bits = n;
                breaks("far too many at place " + place, 7, s -> here.behind(s).row("1").put(bits, 3).put(0, bits));
            }
        }
    }

    /** A fact of the PART behind the lead: as it is a bit before the tail's last one, and behind that. */
    private static void tells(String what, Tail tail, int fact, int before, int behind, String... words) {
        for (int by = 0; by < 8; by++) {
            Bench b = new Bench().words(words);
            Bench.Stream s = tail.behind(b.lead(by));
            int n = s.size();
            if (n % 8 == 1) {
                b.open(s.cut(n - 1));
                Bench.due(what + ", fact " + fact + " a bit before", b.x.part(1, fact), before);
            }
            if (n % 8 == 0) {
                b.open(s);
                Bench.due(what + ", fact " + fact, b.x.part(1, fact), behind);
            }
        }
    }

    // "8 more than LENGTH: INSERT behind the command's bits": its own and those of INSERT and COPY.
    private static void insertBeyond() {
        Tail six = s -> plain(s, 5).literals('x').commands(SIX_COPY_10).distances(0).row("0 0");
        breaks("INSERT 6 of 5", 8, six);
        tells("INSERT 6 of 5", six, 9, 0, 1);
        goesOn("INSERT 6 of 6", s -> plain(s, 6).literals('x').commands(SIX_COPY_10).distances(0).row("0 1"));
        breaks("INSERT 7 of 6", 8, s -> plain(s, 6).literals('x').commands(SIX_COPY_10).distances(0).row("1 1"));
        breaks("INSERT 2 of one left", 8, s -> plain(s, 5).literals('x').commands(NONE_COPY_4, 144).distances(16).row("0 0 1"));
        goesOn("INSERT 1 of one left", s -> plain(s, 5).literals('x').commands(NONE_COPY_4, 136).distances(16).row("0 0 1"));
    }

    // "COPY .. behind the distance's": also where none is read, that is behind the literals.
    private static void copyBeyond() {
        for (int left = 1; left <= 3; left++) {
            int length = left;
            breaks("COPY 4 of " + left, 8, s -> plain(s, length).literals('x').commands(NONE_COPY_4).distances(16).row("1"));
        }
        goesOn("COPY 4 of 4", s -> plain(s, 4).literals('x').commands(NONE_COPY_4).distances(16).row("1"));
        breaks("COPY 4 of 3 by sign 0 of cell 0", 8, s -> plain(s, 4).told(8, 'x', 'y').commands(10).distances(16).row("1"));
        goesOn("COPY 4 of 4 by sign 0 of cell 0", s -> plain(s, 5).told(8, 'x', 'y').commands(10).distances(16).row("1"));
        breaks("COPY 10 of 9 by sign 0 of cell 1", 8, s -> plain(s, 9).literals('x').commands(64).distances(16).row("0"));
        goesOn("COPY 10 of 10 by sign 0 of cell 1", s -> plain(s, 10).literals('x').commands(64).distances(16).row("0"));
        Tail beyond = s -> plain(s, 3).literals('x').commands(NONE_COPY_4).distances(16).row("1");
        tells("COPY 4 of 3", beyond, 10, 0, 0);
        tells("COPY 4 of 3", beyond, 9, 1, 1);
    }

    // "a changed word behind the distance's": its LENGTH is 4; changed it has 2 to 6 bytes.
    private static void wordBeyond() {
        int[] changes = {0, 5, 4, 6, 18};
        int[] sizes = {4, 2, 3, 5, 6};
        for (int i = 0; i < 5; i++) {
            int change = changes[i];
            int size = sizes[i];
            Tail less = s -> word(plain(s, size - 1), NONE_COPY_4, "", change);
            breaks("CHANGE " + change + " of " + (size - 1), 8, less, "word");
            tells("CHANGE " + change + " of " + (size - 1), less, 11, 0, 0, "word");
            Tail fits = s -> word(plain(s, size), NONE_COPY_4, "", change);
            goesOn("CHANGE " + change + " of " + size, fits, "word");
            tells("CHANGE " + change + " of " + size, fits, 11, 0, 1, "word");
        }
    }

    /** A command without literals, its bits, and the distance of y: that is y and 9, behind eight bytes. */
    private static Bench.Stream word(Bench.Stream s, int command, String bits, int y) {
        int distance = 9 + y;
        int n = 30 - Integer.numberOfLeadingZeros(distance + 3);
        int sign = 16 + 2 * (n - 1) + (distance + 3 >> n & 1);
        return s.literals('x').commands(command).distances(sign).row(bits).put(distance + 3, n);
    }

    // "9 a DISTANCE not above 0": signs 4, 6, 8 of the last, 10, 12, 14 of the second last.
    private static void distanceNotAbove() {
        for (int by = 1; by <= 3; by++) {
            for (int last = 1; last <= 4; last++) {
                int d = last;
                int less = 2 + 2 * by;
                // A copy of 1 .. 4 back, then one by the last less so much.
                Tail tail = s -> ringed(plain(s, 9), less, d);
                Tail second = s -> ringed(plain(s, 9), less + 6, d, 6);
                String what = "last " + last + " less " + by;
                if (last <= by) {
                    breaks(what, 9, tail);
                    breaks("second " + what, 9, second);
                } else {
                    goesOn(what, tail);
                    goesOn("second " + what, second);
                }
            }
        }
    }

    /** Copies of 2 by distances of 1 .. 8, then one by a sign below 16; each of these signs has two bits. */
    private static Bench.Stream ringed(Bench.Stream s, int sign, int... distances) {
        s.literals('x').commands(NONE_COPY_2).told(6, sign, 16, 17, 18).row("0");
        for (int d : distances) {
            s.row(d <= 2 ? "01" : d <= 4 ? "10" : "11").put(d <= 4 ? d - 1 : d - 5, d <= 4 ? 1 : 2);
        }
        return s.row("00");
    }

    // "10 no word of LENGTH COPY, or not that number"; "the least b, so that 2^b is at least how many there are".
    private static void wordNumbers() {
        breaks("no words", 10, s -> word(plain(s, 9), NONE_COPY_4, "", 0));
        breaks("no word of LENGTH 4", 10, s -> word(plain(s, 9), NONE_COPY_4, "", 0), "abcde", "fghij");
        breaks("LENGTH 2", 10, s -> word(plain(s, 9), NONE_COPY_2, "", 0), "abcd");
        breaks("LENGTH 3", 10, s -> word(plain(s, 9), 129, "", 0), "abcd");
        goesOn("LENGTH 10", s -> word(plain(s, 10), 192, "0", 0), "abcdefghij");
        breaks("LENGTH 11", 10, s -> word(plain(s, 11), 192, "1", 0), "abcdefghij");
        breaks("LENGTH 2,118", 10, s -> word(plain(s, 2992), 384 + 7, "0".repeat(24), 0), "abcdefghij");
        for (int many : new int[] {1, 2, 3, 4, 5, 7, 8, 9, 15, 16, 17, 31, 32}) {
            int room = many == 1 ? 1 : 2 * Integer.highestOneBit(many - 1);
            String[] words = numbered(many);
            String what = " of " + many;
            goesOn("number 0" + what, s -> word(plain(s, 4), NONE_COPY_4, "", 0), words);
            goesOn("the last number" + what, s -> word(plain(s, 4), NONE_COPY_4, "", many - 1), words);
            if (many < room) {
                breaks("the number behind the last" + what, 10, s -> word(plain(s, 4), NONE_COPY_4, "", many), words);
                breaks("the greatest number" + what, 10, s -> word(plain(s, 4), NONE_COPY_4, "", room - 1), words);
            }
            Bench b = new Bench().words(words);
            Bench.due("CHANGE 1, the last number" + what,
                b.open(word(b.lead(0).coded(true, 4).plain(), NONE_COPY_4, "", room + many - 1)), 12);
            Bench.due("its bytes", b.made().substring(8), "W" + words[many - 1].substring(1));
        }
    }

    private static String[] numbered(int many) {
        String[] words = new String[many];
        for (int i = 0; i < many; i++) {
            words[i] = "w" + (char) ('0' + i / 10) + (char) ('0' + i % 10) + "z";
        }
        return words;
    }

    // "11 no CHANGE": 23 is the last; RULE 10 comes first, RULE 8 behind it.
    private static void changes() {
        for (int many : new int[] {1, 3, 32}) {
            int room = many == 1 ? 1 : many == 3 ? 4 : 32;
            String[] words = numbered(many);
            goesOn("CHANGE 23 of " + many, s -> word(plain(s, 4), NONE_COPY_4, "", 23 * room + many - 1), words);
            breaks("CHANGE 24 of " + many, 11, s -> word(plain(s, 4), NONE_COPY_4, "", 24 * room), words);
            breaks("CHANGE 24 of " + many + ", one byte left", 11, s -> word(plain(s, 1), NONE_COPY_4, "", 24 * room), words);
        }
        breaks("CHANGE 24, no such number", 10, s -> word(plain(s, 4), NONE_COPY_4, "", 24 * 4 + 3), numbered(3));
        Tail farthest = s -> s.coded(false, 4).row("000 11 1111 00 00").literals('x').commands(NONE_COPY_4)
            .told(10, 519).put(-1, 24);
        breaks("the greatest DISTANCE of all", 11, farthest, "abcd");
        breaks("the greatest DISTANCE of all, no words", 10, farthest);
    }

    // "12 a sign told that is not below a": the greatest that is, the next one, the greatest of so many bits.
    private static void toldSigns() {
        tellsBelow("KINDS 3", 5, s -> s.coded(false, 1).row("1 100 0"));
        tellsBelow("KINDS 12", 14, s -> s.coded(false, 1).row("0 1 110 110"));
        tellsBelow("COUNTS", 26, s -> s.coded(false, 1).row("1 000").told(2, 0));
        tellsBelow("MAP of 3 TREES", 3, s -> s.coded(false, 1).row("000 00 0000 00  1 100 0  0"));
        tellsBelow("MAP of 12 TREES, RUNS 16", 28, s -> s.coded(false, 1).row("000 00 0000 00 0  1 110 110  1 1111"));
        tellsBelow("commands", 704, s -> plain(s, 1).literals('x'));
        for (int postfix = 0; postfix < 4; postfix++) {
            for (int direct : new int[] {0, 1, 15}) {
                int p = postfix;
                int a = 16 + (direct << p) + (48 << p);
                tellsBelow("distances, POSTFIX " + p + ", DIRECT " + direct, a, s -> s.coded(false, 1).row("000").put(p, 2)
                    .put(direct, 4).row("00 00").literals('x').commands(136));
            }
        }
    }

    private static void tellsBelow(String what, int a, Tail ahead) {
        int width = 32 - Integer.numberOfLeadingZeros(a - 1);
        goesOn(what + ", the last sign", s -> ahead.behind(s).row("10 00").put(a - 1, width));
        for (int sign : new int[] {a, (1 << width) - 1}) {
            if (sign >= a && sign < 1 << width) {
                breaks(what + ", sign " + sign, 12, s -> ahead.behind(s).row("10 00").put(sign, width));
                breaks(what + ", sign " + sign + " of four", 12, s -> ahead.behind(s).row("10 11").put(0, width).put(sign, width));
            }
        }
    }

    // "12 .. or the second time (as it was read)"
    private static void toldTwice() {
        int[][] told = {{7, 7}, {7, 8, 7}, {7, 8, 8}, {7, 8, 9, 7}, {7, 8, 9, 8}, {7, 8, 9, 9}};
        for (int[] signs : told) {
            breaks("signs of " + signs.length, 12, s -> plain(s, 1).told(8, signs));
        }
        breaks("the second of three", 12, s -> plain(s, 1).row("10 01").put(7, 8).put(7, 8));
        breaks("the second of four", 12, s -> plain(s, 1).row("10 11").put(7, 8).put(7, 8));
        breaks("the third of four", 12, s -> plain(s, 1).row("10 11").put(7, 8).put(8, 8).put(7, 8));
        goesOn("four others", s -> plain(s, 1).told(8, 7, 8, 9, 6));
        goesOn("four others and t", s -> plain(s, 1).told(8, 7, 8, 9, 6).row("1"));
    }

    // "13 LENGTHS of marks: a sum above 32 (as it is told); at the end none, or more than one and the sum is not 32"
    private static void marks() {
        breaks("1, 2, 1", 13, s -> plain(s, 1).row("00 1110 110 1110"));
        breaks("1, 2, 3, 2", 13, s -> plain(s, 1).row("00 1110 110 01 110"));
        goesOn("1, 2, 3, 4, 5", s -> plain(s, 1).row("00 1110 110 01 10 1111"));
        goesOn("1, 2, 3, 4, 5, 5", s -> plain(s, 1).row("00 1110 110 01 10 1111 1111"));
        breaks("1, 2, 3, 4, 5, 4", 13, s -> plain(s, 1).row("00 1110 110 01 10 1111 10"));
        String zeros = "00".repeat(18);
        int[] skipped = {0, 2, 3};
        for (int h : skipped) {
            int told = 18 - h;
            breaks("none, h " + h, 13, s -> plain(s, 1).put(h, 2).row(zeros.substring(0, 2 * told)));
            breaks("4, 4, h " + h, 13, s -> plain(s, 1).put(h, 2).row("10 10").row(zeros.substring(0, 2 * told - 4)));
            breaks("1, 2, 3, 4, 5, h " + h, 13, s -> plain(s, 1).put(h, 2).row("1110 110 01 10 1111")
                .row(zeros.substring(0, 2 * told - 10)));
            breaks("1, 2, 3, 4 and 5 at last, h " + h, 13, s -> plain(s, 1).put(h, 2).row("1110 110 01 10")
                .row(zeros.substring(0, 2 * told - 10)).row("1111"));
            goesOn("1, 2, 3, 4 and 4 at last, h " + h, s -> plain(s, 1).put(h, 2).row("1110 110 01 10")
                .row(zeros.substring(0, 2 * told - 10)).row("10"));
            // A lone mark of 15 without bits: 256 signs have LENGTH 15 at once, and that sum is another one.
            breaks("a lone one at last, h " + h, 14, s -> plain(s, 1).put(h, 2)
                .row(zeros.substring(0, 2 * told - 2)).row("1111"));
        }
        goesOn("a lone one of LENGTH 5", s -> plain(s, 1).row("11 1111").row(zeros.substring(0, 28)));
        goesOn("a lone one of LENGTH 1", s -> plain(s, 1).row("11 1110").row(zeros.substring(0, 28)));
    }

    // "14 more LENGTHS than signs; a sum above 32,768 (when they come ..); at the end another one"
    private static void lengths() {
        // Marks 2 and 16 have one bit; marks 1, 2 likewise; marks 0 and 2; marks 2, 3, 16, 17 two each.
        String twoAnd16 = "00 00 1110 00 00 00 00 00 00 1110", oneAndTwo = "00 1110 1110";
        String noneAndTwo = "00 00 1110 00 00 1110", four = "00 00 110 110 00 00 00 110 00 110";
        Tail of4 = s -> s.coded(false, 1).row("1 000");
        Tail of5 = s -> s.coded(false, 1).row("1 100 0");
        goesOn("four of 2", s -> of4.behind(s).row(twoAnd16).row("0 0 0 0"));
        goesOn("2 and 16 for three", s -> of4.behind(s).row(twoAnd16).row("0 1 00"));
        breaks("2 and 16 for four", 14, s -> of4.behind(s).row(twoAnd16).row("0 1 10"));
        breaks("2 and 16 for six", 14, s -> of4.behind(s).row(twoAnd16).row("0 1 11"));
        breaks("2 and 16 for four, of five signs", 14, s -> of5.behind(s).row(twoAnd16).row("0 1 10"));
        breaks("1, 2, 1", 14, s -> of4.behind(s).row(oneAndTwo).row("0 1 0"));
        goesOn("1, 2, 2", s -> of4.behind(s).row(oneAndTwo).row("0 1 1"));
        goesOn("1, 1", s -> of4.behind(s).row(oneAndTwo).row("0 0"));
        goesOn("2, 2, 1", s -> of4.behind(s).row(oneAndTwo).row("1 1 0"));
        breaks("2, 2, 2, 1", 14, s -> of4.behind(s).row(oneAndTwo).row("1 1 1 0"));
        breaks("2, 2, 2, 0", 14, s -> of4.behind(s).row(noneAndTwo).row("1 1 1 0"));
        breaks("0, 0, 0, 0", 14, s -> of4.behind(s).row(noneAndTwo).row("0 0 0 0"));
        goesOn("0, 2, 2, 2, 2 of five", s -> of5.behind(s).row(noneAndTwo).row("0 1 1 1 1"));
        breaks("2, 2, 2, 0, 0 of five", 14, s -> of5.behind(s).row(noneAndTwo).row("1 1 1 0 0"));
        breaks("17 for four of four", 14, s -> of4.behind(s).row(four).row("11 100"));
        goesOn("17 for four of five", s -> of5.behind(s).row(four).row("11 100"));
        breaks("17 for five of four", 14, s -> of4.behind(s).row(four).row("11 010"));
        breaks("3 and 17 for three", 14, s -> of4.behind(s).row(four).row("01 11 000"));
        breaks("16 for three at first, each 8", 14, s -> of4.behind(s).row(four).row("10 10"));
        // 17 for three, then again: 8 times (3 - 2), and 3, and e, less the three that came.
        Tail of14 = s -> s.coded(false, 1).row("1 110 110");
        goesOn("17 twice for 13 of 14", s -> of14.behind(s).row(four).row("11 000  11 010"));
        breaks("17 twice for 14 of 14", 14, s -> of14.behind(s).row(four).row("11 000  11 110"));
        breaks("17 twice for 15 of 14", 14, s -> of14.behind(s).row(four).row("11 000  11 001"));
        goesOn("3, and 16 twice for 7 of 14", s -> of14.behind(s).row(four).row("01  10 00  10 00"));
        breaks("3, and 16 twice for 8 of 14", 14, s -> of14.behind(s).row(four).row("01  10 00  10 10"));
    }

    // "15 a run of a MAP beyond n": a run is "k bits for sign k: 2^k and these".
    private static void runs() {
        // A MAP of 64: RUNS 6, the signs 0 and 6 (one bit each); of 4: RUNS 2, the signs 0 and 2.
        Tail of64 = s -> s.coded(false, 1).row("000 00 0000 00  1 000  1 1010").told(3, 0, 6);
        goesOn("64 of 64", s -> of64.behind(s).row("1").put(0, 6));
        breaks("65 of 64", 15, s -> of64.behind(s).row("1").put(1, 6));
        breaks("127 of 64", 15, s -> of64.behind(s).row("1").put(63, 6));
        breaks("64 behind one", 15, s -> of64.behind(s).row("0 1").put(0, 6));
        Tail of4 = s -> s.coded(false, 1).row("000 00 0000 00 0  1 000  1 1000").told(2, 0, 1, 2).row("");
        goesOn("4 of 4", s -> of4.behind(s).row("11").put(0, 2));
        breaks("5 of 4", 15, s -> of4.behind(s).row("11").put(1, 2));
        goesOn("3 behind one", s -> of4.behind(s).row("0 10 1"));
        breaks("3 behind two", 15, s -> of4.behind(s).row("0 0 10 1"));
        goesOn("2 and 2", s -> of4.behind(s).row("10 0 10 0"));
        breaks("3 and 2", 15, s -> of4.behind(s).row("10 1 10 0"));
        // 12 KINDS of literals have a MAP of 768; sign 9 is a run of 512 at least, 16 one of 65,536.
        Tail of768 = s -> s.coded(false, 1).row("1 110 110").told(4, 0).told(5, 0).put(0, 2)
            .row("0 0 00 0000").put(0, 24).row("1 110 110  1 1111");
        goesOn("768 of 768", s -> of768.behind(s).told(5, 9).put(256, 9));
        breaks("769 of 768", 15, s -> of768.behind(s).told(5, 9).put(257, 9));
        breaks("65,536 of 768", 15, s -> of768.behind(s).told(5, 16).put(0, 16));
        breaks("131,071 of 768", 15, s -> of768.behind(s).told(5, 16).put(-1, 16));
    }

    // "16 bytes are left": one is enough, whatever it is.
    private static void bytesLeft() {
        for (int by = 0; by < 8; by++) {
            Bench b = new Bench();
            Bench.Stream s = b.lead(by).empty();
            Bench.due("none left", b.open(s), 8);
            Bench.due("none left, read()", b.x.read(), s.size());
            for (int left = 1; left < 4; left++) {
                Bench.due(left + " left", b.open(s.cut(s.size()).put(0, 8 * left)), -26);
                Bench.due(left + " left, read()", b.x.read(), s.size());
                Bench.due(left + " left, OUT", b.x.count(2), 0);
                Bench.due(left + " left, PARTS", b.x.count(3), 2);
            }
        }
    }

    // "17 OUT would have above 3,000 (behind LENGTH)": eight bytes are there.
    private static void mostOut() {
        goesOn("2,992", s -> s.row("0 00").put(2991, 16));
        breaks("2,993", 17, s -> s.row("0 00").put(2992, 16));
        goesOn("2,992, LAST", s -> s.row("1 0 00").put(2991, 16));
        breaks("2,993, LAST", 17, s -> s.row("1 0 00").put(2992, 16));
        breaks("65,536", 17, s -> s.row("0 00").put(65535, 16));
        breaks("five nibbles", 17, s -> s.row("0 10").put(0x10000, 20));
        breaks("six nibbles", 17, s -> s.row("1 0 01").put(0xFFFFFF, 24));
        Tail full = s -> plain(s, 2992).literals('x').commands(488).distances(0).put(2992 - 2114, 12);
        breaks("one more than 3,000", 17, s -> full.behind(s).row("0 00").put(0, 16));
        goesOn("passed over behind 3,000", s -> full.behind(s).row("0 11 0 11").put(0xFFFFFF, 24));
        Bench b = new Bench();
        Bench.due("EMPTY behind 3,000", b.open(full.behind(b.lead(0)).empty()), 3000);
    }

    // "(9, 10, 11, 8.)"; "behind RULES 5 and 17".
    private static void rulesInTheirOrder() {
        breaks("9 ahead of 8", 9, s -> plain(s, 3).literals('x').commands(NONE_COPY_2).distances(4, 16).row("1 0 0"));
        breaks("10 ahead of 8", 10, s -> word(plain(s, 1), NONE_COPY_4, "", 0));
        breaks("11 ahead of 8", 11, s -> word(plain(s, 1), NONE_COPY_4, "", 24), "abcd");
        breaks("5 ahead of 17", 5, s -> s.row("0 10").put(0x0FFFF, 20));
    }

    /** All that is told of the PART behind the lead: a bit before the tail's last one, and behind that. */
    private static void tellsPart(String what, Tail tail, String before, String behind) {
        for (int by = 0; by < 8; by++) {
            Bench b = new Bench();
            Bench.Stream s = tail.behind(b.lead(by));
            int n = s.size();
            if (n % 8 == 1) {
                b.open(s.cut(n - 1));
                Bench.due(what + " a bit before", b.part(1), before);
                Bench.due(what + " a bit before, count(3)", b.x.count(3), before.equals(NO_PART) ? 1 : 2);
            }
            if (n % 8 == 0) {
                b.open(s);
                Bench.due(what, b.part(1), behind);
                Bench.due(what + ", count(3)", b.x.count(3), behind.equals(NO_PART) ? 1 : 2);
            }
        }
    }

    // "as soon as its sort is sure: behind the bit EMPTY; the 2 bits of one PASSED OVER, that is not LAST (ahead of
    // its bit 0); LENGTH of one that is LAST, or the bit RAW, both behind RULES 5 and 17"
    private static void sortIsSure() {
        String rest = " 0 0 0 0 0 0 0 0 0 0";
        tellsPart("EMPTY", s -> s.row("1 1"), NO_PART, "0 0" + rest);
        tellsPart("PASSED OVER", s -> s.row("0 11"), NO_PART, "1 0" + rest);
        tellsPart("PASSED OVER, its bit is 1", s -> s.row("0 11 1"), "1 0" + rest, "1 0" + rest);
        tellsPart("PASSED OVER, LAST", s -> s.row("1 0 11"), NO_PART, NO_PART);
        tellsPart("CODED, LAST", s -> s.row("1 0 00").put(4, 16), NO_PART, "3 5" + rest);
        tellsPart("LENGTH of one that is not LAST", s -> s.row("0 00").put(4, 16), NO_PART, NO_PART);
        tellsPart("CODED", s -> s.row("0 00").put(4, 16).row("0"), NO_PART, "3 5" + rest);
        tellsPart("RAW", s -> s.row("0 00").put(4, 16).row("1"), NO_PART, "2 5" + rest);
        tellsPart("RULE 5, LAST", s -> s.row("1 0 10").put(4, 20), NO_PART, NO_PART);
        tellsPart("RULE 17, LAST", s -> s.row("1 0 00").put(2992, 16), NO_PART, NO_PART);
        tellsPart("LENGTH to 3,000, LAST", s -> s.row("1 0 00").put(2991, 16), NO_PART, "3 2992" + rest);
        tellsPart("no bytes to be passed over", s -> s.row("0 11 0 00"), "1 0" + rest, "1 0" + rest);
        tellsPart("256 bytes", s -> s.row("0 11 0 10").put(255, 8), "1 0" + rest, "1 256" + rest);
        tellsPart("1 byte", s -> s.row("0 11 0 10").put(0, 8), "1 0" + rest, "1 1" + rest);
        tellsPart("257 bytes", s -> s.row("0 11 0 01").put(256, 16), "1 0" + rest, "1 257" + rest);
        tellsPart("2^24 bytes", s -> s.row("0 11 0 11").put(-1, 24), "1 0" + rest, "1 16777216" + rest);
    }

    // "as far as they were read in it (else 0)": POSTFIX and DIRECT; KINDS and TREES stand in howMany().
    private static void headIsTold() {
        for (int postfix = 0; postfix < 4; postfix++) {
            for (int direct = 0; direct < 16; direct += 5) {
                int p = postfix;
                int d = direct;
                tells("POSTFIX " + p, s -> s.coded(false, 1).row("000").put(p, 2), 7, 0, p);
                tells("DIRECT " + d, s -> s.coded(false, 1).row("000").put(p, 2).put(d, 4), 8, 0, d << p);
            }
        }
    }

    // "9 commands (their bits too), 10 copies, 11 words that were made"
    private static void commandsAreTold() {
        Tail command = s -> plain(s, 30).told(8, 'x', 'y').commands(NONE_COPY_4, SIX_COPY_10).distances(16, 17).row("1");
        tells("the command's sign", command, 9, 0, 0);
        tells("bits of INSERT", s -> command.behind(s).row("0"), 9, 0, 0);
        tells("bits of COPY", s -> command.behind(s).row("0 0"), 9, 0, 1);
        tells("its literals", s -> command.behind(s).row("0 0 111111"), 9, 1, 1);
        tells("its distance's sign", s -> command.behind(s).row("0 0 111111 1"), 10, 0, 0);
        tells("its distance's bits", s -> command.behind(s).row("0 0 111111 1 1"), 10, 0, 1);
        tells("the next one without bits of its own", s -> command.behind(s).row("0 0 111111 1 1 0"), 9, 1, 2);
        tells("a copy without a distance", s -> plain(s, 5).told(8, 'x', 'y').commands(10).distances(16).row("1"), 10, 0, 1);
        tells("no copy where LENGTH is reached", s -> plain(s, 1).told(8, 'x', 'y').commands(10).distances(16).row("1"), 10, 0, 0);
        tells("no word is a copy", s -> word(plain(s, 4), NONE_COPY_4, "", 0), 10, 0, 0, "word");
    }

    // "of the latest PART of the latest open() of which all CODES were read to their end"
    private static void codesAreTold() {
        Tail tail = s -> s.coded(false, 3).row("0 0 1 000").told(2, 0).told(5, 0).put(0, 2)
            .row("00 0000 00 0 1 000  0").told(1, 0, 1).row("0101 1010 0")
            .told(8, 'x', 'y', 'z').commands(152).told(6, 5, 6, 7).told(6, 60, 61);
        for (int by = 0; by < 8; by++) {
            Bench b = new Bench();
            Bench.Stream s = tail.behind(b.lead(by));
            int n = s.size();
            boolean all = n % 8 == 0;
            if (all || n % 8 == 1) {
                b.open(s.cut(n / 8 * 8));
                Bench.due("lengths, " + all, b.x.length(0, 0, 'a') + " " + b.x.length(0, 0, 'z') + " " + b.x.length(2, 0, 7)
                    + " " + b.x.length(2, 1, 61), all ? "0 2 2 1" : "1 0 0 -1");
                Bench.due("maps, " + all, b.x.map(1, 1) + " " + b.x.map(1, 4) + " " + b.x.map(1, 7) + " " + b.x.map(1, 8)
                    + " " + b.x.map(0, 63) + " " + b.x.map(0, 64), all ? "1 1 0 -1 0 -1" : "0 -1 -1 -1 0 -1");
            }
        }
        Bench none = new Bench();
        none.open(none.stream().coded(true, 1).plain().told(8, 'x', 'y').commands(136).row("10"));
        Bench.due("no PART at all", none.x.length(0, 0, 'x') + " " + none.x.map(0, 0) + " " + none.x.map(1, 0), "-1 -1 -1");
    }

    // "THE RING as the latest open() left it": a distance comes to it when its copy was made.
    private static void ringIsTold() {
        Tail tail = s -> plain(s, 9).literals('x').commands(NONE_COPY_4).distances(18).put(1, 2);
        for (int by = 0; by < 8; by++) {
            Bench b = new Bench();
            Bench.Stream s = tail.behind(b.lead(by));
            int n = s.size();
            if (n % 8 < 2) {
                b.open(s.cut(n / 8 * 8));
                Bench.due("ring", b.ring(), n % 8 == 0 ? "6 4 11 15" : "4 11 15 16");
            }
        }
        Bench b = new Bench();
        b.open(plain(b.lead(0), 3).literals('x').commands(NONE_COPY_4).distances(18).put(1, 2));
        Bench.due("a copy that is too long, ring", b.ring(), "4 11 15 16");
        b.open(tail.behind(b.lead(0)));
        b.x.wipe();
        b.x.open();
        Bench.due("open() of nothing, ring", b.ring(), "4 11 15 16");
        Bench.due("open() of nothing, count(3)", b.x.count(3), 0);
        Bench.due("open() of nothing, part(0, 0)", b.x.part(0, 0), BrotliWords.BAD);
        Bench.due("open() of nothing, length(0, 0, 'a')", b.x.length(0, 0, 'a'), BrotliWords.BAD);
    }
}
