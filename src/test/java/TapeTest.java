/** Promises 1 to 6: a new object, and what comes to the TAPE and goes from it. */
final class TapeTest {
    public static void main(String[] args) {
        newObject();
        feed();
        feedIsFull();
        end();
        endIsBad();
        bits();
        bitsOfEachNumber();
        bitsAreFull();
        bitsGoOn();
        refusedCallsLetBitsGoOn();
        refusedPassLetsBitsGoOn();
        callsThatOnlyTellLetBitsGoOn();
        spoil();
        spoilIsBad();
        wipe();
        Bench.finish("TapeTest");
    }

    private static void newObject() {
        Bench b = new Bench();
        for (int what = 0; what < 5; what++) {
            Bench.due("new: count(" + what + ")", b.x.count(what), 0);
        }
        Bench.due("new: read()", b.x.read(), 0);
        Bench.due("new: ring", b.ring(), "4 11 15 16");
        Bench.due("new: out(0)", b.x.out(0), BrotliWords.BAD);
        Bench.due("new: part(0, 0)", b.x.part(0, 0), BrotliWords.BAD);
        Bench.due("new: map(0, 0)", b.x.map(0, 0), BrotliWords.BAD);
        Bench.due("new: length(0, 0, 0)", b.x.length(0, 0, 0), BrotliWords.BAD);
        Bench.due("new: command(0, 0)", b.x.command(0, 0), BrotliWords.BAD);
        Bench.due("new: changed(4, 0, 0, -1)", b.x.changed(4, 0, 0, -1), BrotliWords.BAD);
        Bench.due("new: pass()", b.x.pass(), 0);
        Bench.due("constants", BrotliWords.BAD + " " + BrotliWords.NONE + " " + BrotliWords.FULL, "-1 -2 -3");
    }

    private static void feed() {
        Bench b = new Bench();
        Bench.due("feed", b.x.feed(0x01020304, 0xF0E0D0C0, -1, 0, 0x7F80FF01), 20);
        b.x.pack(0);
        Bench.due("fed bytes", b.made().substring(5, 25),
            "\1\2\3\4\u00f0\u00e0\u00d0\u00c0\u00ff\u00ff\u00ff\u00ff\0\0\0\0\u007f\u0080\u00ff\1");
        for (int i = 1; i <= 120; i++) {
            Bench.due("feed " + i, b.x.feed(i, i, i, i, i), 20 * i);
        }
        Bench.due("feed above 2,400", b.x.feed(1, 2, 3, 4, 5), BrotliWords.FULL);
        Bench.due("count(1) when full", b.x.count(1), 2400);
        Bench.due("end(19)", b.x.end(19), 2399);
        Bench.due("feed to 2,419", b.x.feed(1, 2, 3, 4, 5), BrotliWords.FULL);
        Bench.due("end(0)", b.x.end(0), 2379);
        Bench.due("feed to 2,399", b.x.feed(1, 2, 3, 4, 5), 2399);
    }

    // "FULL: above 2,400": 2,380 may grow, 2,381 may not, and what is there stays.
    private static void feedIsFull() {
        Bench b = new Bench().text("0123456789".repeat(238));
        Bench.due("2,380", b.x.count(1), 2380);
        b.x.bits('!', 8);
        Bench.due("feed to 2,401", b.x.feed(-1, -1, -1, -1, -1), BrotliWords.FULL);
        Bench.due("2,381 stay", b.x.count(1), 2381);
        Bench.due("the last stays", b.x.spoil(2380, 1), '!' ^ 1);
        Bench.due("so does the one before", b.x.spoil(2379, 1), '9' ^ 1);
        Bench.due("none is behind", b.x.spoil(2381, 1), BrotliWords.BAD);
        Bench other = new Bench().text("0123456789".repeat(238));
        Bench.due("feed to 2,400", other.x.feed(-1, -1, -1, -1, -1), 2400);
    }

    // "the first n (0 .. 20) stay"; "BAD: another n, or fewer than twenty are there".
    private static void endIsBad() {
        for (int n = 0; n <= 20; n++) {
            Bench b = new Bench();
            b.x.feed(0x61626364, 0x65666768, 0x696a6b6c, 0x6d6e6f70, 0x71727374);
            for (int bad : new int[] {-1, 21, 40, Integer.MIN_VALUE, Integer.MAX_VALUE}) {
                Bench.due("end(" + bad + ")", b.x.end(bad), BrotliWords.BAD);
            }
            Bench.due("twenty stay", b.x.count(1), 20);
            Bench.due("end(" + n + ")", b.x.end(n), n);
            Bench.due("end(0) of " + n, b.x.end(0), n == 20 ? 0 : BrotliWords.BAD);
            Bench.due("what stays of " + n, b.x.count(1), n == 20 ? 0 : n);
            for (int i = 0; i < n % 20; i++) {
                Bench.due("its byte " + i, b.x.spoil(i, 1), 'a' + i ^ 1);
            }
        }
    }

    private static void end() {
        Bench b = new Bench();
        Bench.due("end of nothing", b.x.end(0), BrotliWords.BAD);
        b.x.feed(0x61626364, 0x65666768, 0x696a6b6c, 0x6d6e6f70, 0x71727374);
        Bench.due("end(-1)", b.x.end(-1), BrotliWords.BAD);
        Bench.due("end(21)", b.x.end(21), BrotliWords.BAD);
        Bench.due("end(20)", b.x.end(20), 20);
        Bench.due("end(19)", b.x.end(19), 19);
        Bench.due("end of nineteen", b.x.end(19), BrotliWords.BAD);
        b.x.feed(0x41424344, 0x45464748, 0x494a4b4c, 0x4d4e4f50, 0x51525354);
        Bench.due("end(3)", b.x.end(3), 22);
        b.x.pack(0);
        Bench.due("what stays", b.made().substring(5, 27), "abcdefghijklmnopqrsABC");
        b.x.feed(1, 1, 1, 1, 1);
        Bench.due("end(0)", b.x.end(0), 0);
    }

    private static void bits() {
        Bench b = new Bench();
        Bench.due("bits(1, 0)", b.x.bits(1, 0), BrotliWords.BAD);
        Bench.due("bits(1, 33)", b.x.bits(1, 33), BrotliWords.BAD);
        Bench.due("bits(1, -1)", b.x.bits(1, -1), BrotliWords.BAD);
        Bench.due("bits(-1, 1)", b.x.bits(-1, 1), 1);
        Bench.due("bits(0, 3)", b.x.bits(0, 3), 4);
        Bench.due("count(1) of 4 bits", b.x.count(1), 1);
        Bench.due("bits(-2, 5)", b.x.bits(-2, 5), 9);
        Bench.due("bits(0x80000001, 32)", b.x.bits(0x80000001, 32), 41);
        Bench.due("count(1) of 41 bits", b.x.count(1), 6);
        b.x.pack(0);
        Bench.due("bytes of bits", b.made().substring(5, 11), "\u00e1\u0003\u0000\u0000\u0000\u0001");
        Bench full = new Bench();
        for (int i = 1; i <= 115; i++) {
            full.x.feed(0, 0, 0, 0, 0);
        }
        for (int i = 1; i <= 24; i++) {
            Bench.due("bits " + i, full.x.bits(-1, 32), 18400 + 32 * i);
        }
        Bench.due("bits to 19,199", full.x.bits(0, 31), 19199);
        Bench.due("bits to 19,201", full.x.bits(3, 2), BrotliWords.FULL);
        Bench.due("bits to 19,200", full.x.bits(1, 1), 19200);
        Bench.due("bits above", full.x.bits(1, 1), BrotliWords.FULL);
        Bench.due("bad bits above", full.x.bits(1, 40), BrotliWords.BAD);
        Bench.due("count(1)", full.x.count(1), 2400);
        Bench.due("last byte", full.x.spoil(2399, 1), 129);
    }

    // "The n (1 .. 32) lowest bits of a number": what is above them does not come.
    private static void bitsOfEachNumber() {
        for (int n = 1; n <= 32; n++) {
            for (int v : new int[] {-1, 0x55555555, 0xAAAAAAAA, Integer.MIN_VALUE, 1}) {
                Bench b = new Bench();
                Bench.due("bits(" + v + ", " + n + ")", b.x.bits(v, n), n);
                Bench.due("its bytes", b.x.count(1), (n + 7) / 8);
                long bits = v & (1L << n) - 1;
                b.x.pack(0);
                for (int i = 0; i < (n + 7) / 8; i++) {
                    Bench.due("byte " + i, b.x.out(5 + i), bits >> 8 * i & 255);
                }
            }
        }
        Bench b = new Bench();
        for (int n : new int[] {0, -1, 33, Integer.MIN_VALUE, Integer.MAX_VALUE}) {
            Bench.due("bits(1, " + n + ")", b.x.bits(1, n), BrotliWords.BAD);
        }
        Bench.due("nothing came", b.x.count(1), 0);
    }

    // "FULL: above 19,200 bits": also where bits are free in the last byte, but do not go on there.
    private static void bitsAreFull() {
        Bench b = new Bench().text("x".repeat(2399));
        Bench.due("bits to 19,193", b.x.bits(1, 1), 19193);
        Bench.due("bits to 19,201", b.x.bits(0, 8), BrotliWords.FULL);
        Bench.due("nothing came", b.x.count(1), 2400);
        Bench.due("bits to 19,199", b.x.bits(-1, 6), 19199);
        Bench.due("spoil", b.x.spoil(2399, 1), 126);
        Bench.due("a bit behind a whole byte", b.x.bits(1, 1), BrotliWords.FULL);
        Bench.due("feed", b.x.feed(0, 0, 0, 0, 0), BrotliWords.FULL);
        Bench.due("the byte stays", b.x.spoil(2399, 1), 127);
        Bench.due("32 bits", b.x.bits(0, 32), BrotliWords.FULL);
        b.x.end(16);
        Bench.due("32 bits to 19,200", b.x.bits(0, 32), 19200);
    }

    private static void bitsGoOn() {
        Bench b = new Bench();
        b.x.bits(1, 3);
        b.x.feed(0, 0, 0, 0, 0);
        Bench.due("bits behind feed", b.x.bits(1, 1), 169);
        b.x.end(20);
        Bench.due("bits behind end(20)", b.x.bits(1, 1), 177);
        b.x.spoil(0, 1);
        Bench.due("bits behind spoil", b.x.bits(1, 1), 185);
        b.x.wipe();
        Bench.due("bits behind wipe", b.x.bits(1, 1), 1);
        b.x.wipe();
        b.x.bits(0, 25);
        b.x.word();
        Bench.due("bits behind word", b.x.bits(1, 1), 1);
        b.x.pack(0);
        Bench.due("bits behind pack", b.x.bits(1, 3), 3);
        b.x.open();
        Bench.due("bits behind open", b.x.bits(1, 1), 1);
        b.x.pack(0);
        b.x.pass();
        Bench.due("bits behind pass", b.x.bits(1, 1), 57);
        bitsBehindNoChange();
    }

    // ".. if none of feed(), end(), .. came since that was not refused, whatever it changed"
    private static void bitsBehindNoChange() {
        Bench b = new Bench();
        b.x.pack(0);
        b.x.pass();
        Bench.due("bits behind three bytes", b.x.bits(0, 1), 25);
        b.x.open();
        b.x.bits(1, 3);
        b.x.wipe();
        b.x.open();
        Bench.due("pass() of nothing", b.x.pass(), 0);
        Bench.due("bits behind pass() of nothing", b.x.bits(1, 5), 5);
        Bench.due("pass() of nothing again", b.x.pass(), 0);
        Bench.due("bits start anew", b.x.bits(1, 2), 2);
        b.x.wipe();
        b.x.bits(0, 17);
        b.x.feed(0, 0, 0, 0, 0);
        b.x.bits(7, 3);
        Bench.due("end(20) leaves all", b.x.end(20), 24);
        Bench.due("bits behind end(20)", b.x.bits(1, 3), 195);
        Bench.due("they go on", b.x.bits(1, 1), 196);
        Bench.due("the byte before has its three", b.x.spoil(23, 255), 248);
        Bench.due("the last has its own", b.x.spoil(24, 255), 255 - 9);
    }

    private static void refusedCallsLetBitsGoOn() {
        Bench b = new Bench();
        b.x.bits(1, 1);
        b.x.end(3);
        b.x.spoil(5, 1);
        b.x.spoil(0, 0);
        b.x.word();
        b.x.pack(3);
        b.x.bits(0, 0);
        b.x.clear();
        b.x.digest();
        b.x.count(1);
        Bench.due("bits behind what was refused", b.x.bits(1, 1), 2);
        for (int i = 0; i < 32; i++) {
            b.x.wipe();
            b.x.bits(i, 32);
            b.x.word();
        }
        b.x.bits(0, 26);
        Bench.due("the 33rd word", b.x.word(), BrotliWords.FULL);
        Bench.due("bits behind a FULL word()", b.x.bits(1, 1), 27);
        b.x.wipe();
        for (int i = 0; i < 119; i++) {
            b.x.feed(0, 0, 0, 0, 0);
        }
        b.x.bits(1, 1);
        Bench.due("feed above 2,400", b.x.feed(0, 0, 0, 0, 0), BrotliWords.FULL);
        Bench.due("pack above 2,000", b.x.pack(1), BrotliWords.BAD);
        Bench.due("bits behind a FULL feed()", b.x.bits(1, 1), 119 * 160 + 2);
    }

    // pass() is refused where OUT has above 2,400 bytes.
    private static void refusedPassLetsBitsGoOn() {
        Bench b = new Bench();
        b.open(b.stream().coded(true, 2401).plain().literals('a').commands(488).distances(0).put(2401 - 2114, 12));
        b.x.bits(1, 3);
        Bench.due("pass() of 2,401", b.x.pass(), BrotliWords.FULL);
        Bench.due("bits behind it", b.x.bits(1, 1), 4);
        Bench.due("all that is there", b.x.spoil(0, 255), 255 - 9);
    }

    // What is not named among feed(), end(), spoil(), wipe(), word(), pack(), open(), pass() is no matter.
    private static void callsThatOnlyTellLetBitsGoOn() {
        Bench b = new Bench().words("abcd");
        b.text("abcdabcd").x.pack(1);
        b.x.pass();
        b.x.open();
        b.x.bits(1, 1);
        b.x.clear();
        b.x.digest();
        b.x.changed(4, 0, 0, 0);
        b.x.out(0);
        b.x.read();
        b.x.part(0, 0);
        b.x.ring(0);
        b.x.map(0, 0);
        b.x.length(0, 0, 0);
        b.x.command(0, 0);
        b.x.count(0);
        Bench.due("bits go on", b.x.bits(1, 1), 2);
    }

    // "BAD: none such, mask not 1 .. 255"
    private static void spoilIsBad() {
        Bench b = new Bench();
        b.x.bits(0x155, 9);
        for (int i : new int[] {-1, 2, Integer.MIN_VALUE, Integer.MAX_VALUE}) {
            Bench.due("spoil(" + i + ", 1)", b.x.spoil(i, 1), BrotliWords.BAD);
        }
        for (int mask : new int[] {0, -1, 256, 257, Integer.MIN_VALUE, Integer.MAX_VALUE}) {
            Bench.due("spoil(0, " + mask + ")", b.x.spoil(0, mask), BrotliWords.BAD);
        }
        Bench.due("bits go on", b.x.bits(1, 1), 10);
        Bench.due("the bytes stay", b.x.spoil(0, 1) + " " + b.x.spoil(1, 255), "84 252");
        for (int mask = 1; mask < 256; mask++) {
            Bench.due("spoil(0, " + mask + ")", b.x.spoil(0, mask), 84 ^ mask);
            b.x.spoil(0, mask);
            b = mask == 128 ? again() : b;
        }
    }

    private static Bench again() {
        Bench b = new Bench();
        b.x.bits(84, 8);
        return b;
    }

    private static void spoil() {
        Bench b = new Bench();
        Bench.due("spoil of nothing", b.x.spoil(0, 1), BrotliWords.BAD);
        b.text("abc");
        Bench.due("spoil(1, 32)", b.x.spoil(1, 32), 'B');
        Bench.due("spoil(1, 255)", b.x.spoil(1, 255), 255 - 'B');
        Bench.due("spoil(-1, 1)", b.x.spoil(-1, 1), BrotliWords.BAD);
        Bench.due("spoil(3, 1)", b.x.spoil(3, 1), BrotliWords.BAD);
        Bench.due("spoil(0, 0)", b.x.spoil(0, 0), BrotliWords.BAD);
        Bench.due("spoil(0, 256)", b.x.spoil(0, 256), BrotliWords.BAD);
        Bench.due("spoil(0, 1)", b.x.spoil(0, 1), 'a' ^ 1);
    }

    private static void wipe() {
        Bench b = new Bench();
        Bench.due("wipe of nothing", b.x.wipe(), 0);
        b.text("abc");
        Bench.due("wipe", b.x.wipe(), 3);
        Bench.due("count(1)", b.x.count(1), 0);
        b.x.bits(1, 9);
        Bench.due("wipe of 9 bits", b.x.wipe(), 2);
        b.x.bits(0, 8);
        b.x.pack(0);
        Bench.due("what was wiped is gone", b.x.out(5), 0);
    }
}
