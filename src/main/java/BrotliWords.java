import java.util.Arrays;

/** Bytes packed with copies from before and words that are told; see README.md. */
public final class BrotliWords {
    public static final int BAD = -1, NONE = -2, FULL = -3;

    private static final int MOST_TAPE = 2400;
    private static final int MOST_PACKED = 2000;
    private static final int MOST_OPENED = 3000;
    // Far above what 2,000 bytes can be packed to: no code is longer than telling all signs plainly.
    private static final int ROOM_OUT = 4000;

    private static final int LEAST_WORD = 4, MOST_WORD = 10, WORDS_EACH = 32, CHANGES = 24;

    private static final int LITERALS = 0, COMMANDS = 1, DISTANCES = 2;
    private static final int LITERAL_SIGNS = 256, COMMAND_SIGNS = 704, COUNT_SIGNS = 26, MARKS = 18;
    private static final int MOST_DISTANCE_SIGNS = 520;
    private static final int MOST_KINDS = 12, MOST_RUNS = 16;
    private static final int LITERAL_CONTEXTS = 64, DISTANCE_CONTEXTS = 4;
    private static final int LONGEST = 15, LONGEST_MARK = 5;
    private static final int WHOLE = 32768, WHOLE_MARKS = 32;
    private static final int REPEAT_LATEST = 16, REPEAT_ZERO = 17;

    private static final int NO_PART = -1, EMPTY = 0, PASSED_OVER = 1, RAW = 2, CODED = 3;
    private static final int PARTS_KEPT = 60, PART_FACTS = 12;
    private static final int FACT_LENGTH = 1, FACT_KINDS = 2, FACT_TREES = 5, FACT_POSTFIX = 7;
    private static final int FACT_DIRECT = 8, FACT_COMMANDS = 9, FACT_COPIES = 10, FACT_WORDS = 11;

    private static final int ENDS_EARLY = 1, WRONG_DIGEST = 2, WRONG_SPAN = 3, WRONG_SORT = 4;
    private static final int IDLE_NUMBER = 5, FILLED_BITS = 6, TOO_MANY_KINDS = 7, BEYOND_LENGTH = 8;
    private static final int NO_DISTANCE = 9, NO_WORD = 10, NO_CHANGE = 11, WRONG_SIGN = 12;
    private static final int WRONG_MARKS = 13, WRONG_LENGTHS = 14, RUN_BEYOND_MAP = 15;
    private static final int BYTES_LEFT = 16, TOO_MUCH_OUT = 17;

    private static final int[] COUNT_BASES = {
        1, 5, 9, 13, 17, 25, 33, 41, 49, 65, 81, 97, 113, 145, 177, 209,
        241, 305, 369, 497, 753, 1265, 2289, 4337, 8433, 16625};
    private static final int[] COUNT_BITS = {
        2, 2, 2, 2, 3, 3, 3, 3, 4, 4, 4, 4, 5, 5, 5, 5, 6, 6, 7, 8, 9, 10, 11, 12, 13, 24};
    private static final int[] INSERT_BASES = {
        0, 1, 2, 3, 4, 5, 6, 8, 10, 14, 18, 26, 34, 50, 66, 98,
        130, 194, 322, 578, 1090, 2114, 6210, 22594};
    private static final int[] INSERT_BITS = {
        0, 0, 0, 0, 0, 0, 1, 1, 2, 2, 3, 3, 4, 4, 5, 5, 6, 7, 8, 9, 10, 12, 14, 24};
    private static final int[] COPY_BASES = {
        2, 3, 4, 5, 6, 7, 8, 9, 10, 12, 14, 18, 22, 30, 38, 54,
        70, 102, 134, 198, 326, 582, 1094, 2118};
    private static final int[] COPY_BITS = {
        0, 0, 0, 0, 0, 0, 0, 0, 1, 1, 2, 2, 3, 3, 4, 4, 5, 5, 6, 7, 8, 9, 10, 24};
    private static final int[] CELL_INSERTS = {0, 0, 0, 0, 1, 1, 0, 2, 1, 2, 2};
    private static final int[] CELL_COPIES = {0, 1, 0, 1, 0, 1, 2, 0, 2, 1, 2};
    private static final int[] CELL_OF_CODES = {2, 3, 6, 4, 5, 8, 7, 9, 10};
    private static final int[] MARK_ORDER = {
        1, 2, 3, 4, 0, 5, 17, 6, 16, 7, 8, 9, 10, 11, 12, 13, 14, 15};
    private static final int[] RING_AT_FIRST = {4, 11, 15, 16};
    // How the LENGTHS 0 .. 5 of marks are written, the bit that comes first lowest.
    private static final int[] MARK_LENGTH_BITS = {0, 7, 3, 2, 1, 15};
    private static final int[] MARK_LENGTH_SIZES = {2, 4, 3, 2, 2, 4};

    private final Row tape;
    private final Row made;
    private final Words words;
    private final Opener opener;
    private final Packer packer;

    public BrotliWords() {
        tape = new Row(MOST_TAPE);
        made = new Row(ROOM_OUT);
        words = new Words();
        opener = new Opener(words, made);
        packer = new Packer(words, tape, made);
    }

    public int feed(int a, int b, int c, int d, int e) {
        if (tape.size + 20 > MOST_TAPE) {
            return FULL;
        }
        tape.addNumber(a);
        tape.addNumber(b);
        tape.addNumber(c);
        tape.addNumber(d);
        tape.addNumber(e);
        return tape.size;
    }

    public int end(int n) {
        if (n < 0 || n > 20 || tape.size < 20) {
            return BAD;
        }
        tape.shorten(20 - n);
        return tape.size;
    }

    public int bits(int v, int n) {
        if (n < 1 || n > 32) {
            return BAD;
        }
        if (tape.bitEnd + n > 8 * MOST_TAPE) {
            return FULL;
        }
        tape.addBits(v, n);
        return tape.bitEnd;
    }

    public int spoil(int i, int mask) {
        if (i < 0 || i >= tape.size || mask < 1 || mask > 255) {
            return BAD;
        }
        tape.flip(i, mask);
        return tape.at(i);
    }

    public int wipe() {
        int had = tape.size;
        tape.empty();
        return had;
    }

    public int word() {
        int size = tape.size;
        if (!words.hasLength(size)) {
            return BAD;
        }
        if (words.manyOf(size) >= WORDS_EACH) {
            return FULL;
        }
        words.add(tape);
        tape.empty();
        return words.manyOf(size);
    }

    public int clear() {
        int had = words.total();
        words.forget();
        return had;
    }

    public int digest() {
        return words.hash();
    }

    public int changed(int length, int number, int change, int i) {
        if (!words.has(length, number) || change < 0 || change >= CHANGES) {
            return BAD;
        }
        int size = words.sizeWith(length, change);
        if (i < -1 || i >= size) {
            return BAD;
        }
        return i == -1 ? size : words.byteWith(length, number, change, i);
    }

    public int pack(int level) {
        if (level < 0 || level > 2 || tape.size > MOST_PACKED) {
            return BAD;
        }
        packer.run(level);
        tape.empty();
        return made.size;
    }

    public int open() {
        opener.run(tape);
        tape.empty();
        int rule = opener.brokenRule();
        if (rule != 0) {
            made.empty();
            return -10 - rule;
        }
        return made.size;
    }

    public int pass() {
        if (made.size > MOST_TAPE) {
            return FULL;
        }
        tape.takeAll(made);
        return tape.size;
    }

    public int out(int i) {
        return i >= 0 && i < made.size ? made.at(i) : BAD;
    }

    public int read() {
        return opener.bitsSeen();
    }

    public int part(int i, int what) {
        return opener.partFact(i, what);
    }

    public int ring(int i) {
        return opener.lateDistance(i);
    }

    public int map(int sort, int i) {
        return opener.mapNumber(sort, i);
    }

    public int length(int sort, int tree, int sign) {
        return opener.signLength(sort, tree, sign);
    }

    public int command(int i, int what) {
        return packer.commandFact(i, what);
    }

    public int count(int what) {
        switch (what) {
            case 0:
                return words.total();
            case 1:
                return tape.size;
            case 2:
                return made.size;
            case 3:
                return opener.partsMet();
            case 4:
                return packer.commandsMade();
            default:
                return BAD;
        }
    }

    /** How many bits a number above 0 has. */
    private static int widthOf(int v) {
        int width = 0;
        for (int i = 0; i < 31; i++) {
            if (v >> i != 0) {
                width = i + 1;
            }
        }
        return width;
    }

    /** The greatest place in a row of rising bases whose base is not above a number. */
    private static int codeOf(int[] bases, int v) {
        int code = 0;
        for (int i = 0; i < bases.length; i++) {
            if (bases[i] <= v) {
                code = i;
            }
        }
        return code;
    }

    /** A distance comes to THE RING, which has the last one first. */
    private static void remember(int[] lately, int distance) {
        for (int i = lately.length - 1; i > 0; i--) {
            lately[i] = lately[i - 1];
        }
        lately[0] = distance;
    }

    /** A row of bytes with a bound (the TAPE, OUT), which takes bits or bytes at its end. */
    private static final class Row {
        private final int[] bytes;
        private int size;
        // Where the next bit goes: within the last byte only while nothing but bits came.
        private int bitEnd;

        Row(int most) {
            bytes = new int[most];
        }

        int at(int i) {
            return i >= 0 && i < size ? bytes[i] : 0;
        }

        void empty() {
            size = 0;
            bitEnd = 0;
        }

        void toWholeByte() {
            bitEnd = 8 * size;
        }

        void addByte(int b) {
            if (size < bytes.length) {
                bytes[size] = b & 255;
                size++;
            }
            toWholeByte();
        }

        void addNumber(int v) {
            addByte(v >>> 24);
            addByte(v >>> 16);
            addByte(v >>> 8);
            addByte(v);
        }

        void addBits(int v, int n) {
            for (int i = 0; i < n; i++) {
                int place = bitEnd >> 3;
                if (place >= bytes.length) {
                    return;
                }
                if (place == size) {
                    bytes[place] = 0;
                    size++;
                }
                bytes[place] |= (v >>> i & 1) << (bitEnd & 7);
                bitEnd++;
            }
        }

        void shorten(int by) {
            size = Math.max(0, size - by);
            toWholeByte();
        }

        void flip(int i, int mask) {
            if (i >= 0 && i < size) {
                bytes[i] ^= mask;
            }
            toWholeByte();
        }

        void takeAll(Row other) {
            empty();
            for (int i = 0; i < other.size; i++) {
                addByte(other.bytes[i]);
            }
        }
    }

    /** THE WORDS with their CHANGES and DIGEST. */
    private static final class Words {
        private final int[] many = new int[MOST_WORD - LEAST_WORD + 1];
        private final int[] letters = new int[(MOST_WORD - LEAST_WORD + 1) * WORDS_EACH * MOST_WORD];

        boolean hasLength(int length) {
            return length >= LEAST_WORD && length <= MOST_WORD;
        }

        int manyOf(int length) {
            return length >= LEAST_WORD && length <= MOST_WORD ? many[length - LEAST_WORD] : 0;
        }

        boolean has(int length, int number) {
            return number >= 0 && number < manyOf(length);
        }

        int total() {
            int sum = 0;
            for (int i = 0; i < many.length; i++) {
                sum += many[i];
            }
            return sum;
        }

        void forget() {
            Arrays.fill(many, 0);
        }

        private static int placeOf(int length, int number) {
            return ((length - LEAST_WORD) * WORDS_EACH + number) * MOST_WORD;
        }

        void add(Row row) {
            int length = row.size;
            int number = manyOf(length);
            if (!hasLength(length) || number >= WORDS_EACH) {
                return;
            }
            int place = placeOf(length, number);
            for (int i = 0; i < length; i++) {
                letters[place + i] = row.at(i);
            }
            many[length - LEAST_WORD]++;
        }

        private int letter(int place) {
            return place >= 0 && place < letters.length ? letters[place] : 0;
        }

        int hash() {
            int h = 5381;
            for (int length = LEAST_WORD; length <= MOST_WORD; length++) {
                h = (33 * h ^ manyOf(length)) & 0xFFFF;
                for (int number = 0; number < manyOf(length); number++) {
                    int place = placeOf(length, number);
                    for (int i = 0; i < length; i++) {
                        h = (33 * h ^ letters[place + i]) & 0xFFFF;
                    }
                }
            }
            return h;
        }

        int bitsOf(int length) {
            int b = 0;
            for (int i = 0; i < 5; i++) {
                if (1 << i < manyOf(length)) {
                    b = i + 1;
                }
            }
            return b;
        }

        private static int coreSize(int length, int how) {
            return how < 3 ? length : how == 5 ? length - 2 : length - 1;
        }

        int sizeWith(int length, int change) {
            int around = change / 6;
            return coreSize(length, change % 6) + (around == 3 ? 2 : around == 0 ? 0 : 1);
        }

        int byteWith(int length, int number, int change, int i) {
            int how = change % 6;
            int around = change / 6;
            int core = coreSize(length, how);
            int at = around == 2 ? i - 1 : i;
            if (at < 0) {
                return ' ';
            }
            if (at >= core) {
                return around == 3 && at == core ? ',' : ' ';
            }
            int b = letter(placeOf(length, number) + (how == 3 ? at + 1 : at));
            return how == 2 || how == 1 && at == 0 ? raised(b) : b;
        }

        private static int raised(int b) {
            return b >= 'a' && b <= 'z' ? b - 32 : b;
        }

        /** Whether a word may begin with a byte, however it is changed; rules most words out at once. */
        boolean mayBegin(int length, int number, int b) {
            int place = placeOf(length, number);
            int first = letter(place);
            return b == first || b == raised(first) || b == letter(place + 1);
        }

        /** How many bytes a word makes without what is AROUND it, if they stand at a place; else 0. */
        int coreAt(Row text, int from, int length, int number, int how) {
            int core = coreSize(length, how);
            int place = placeOf(length, number) + (how == 3 ? 1 : 0);
            if (from < 0 || core > text.size - from || place < 0 || core > letters.length - place) {
                return 0;
            }
            for (int i = 0; i < core; i++) {
                int b = letters[place + i];
                if (text.bytes[from + i] != (how == 2 || how == 1 && i == 0 ? raised(b) : b)) {
                    return 0;
                }
            }
            return core;
        }
    }

    /** The bits that are opened; once a RULE is broken nothing more is read and all numbers are 0. */
    private static final class BitSource {
        private Row row = new Row(0);
        private int seen;
        private int rule;

        void start(Row from) {
            row = from;
            seen = 0;
            rule = 0;
        }

        boolean fine() {
            return rule == 0;
        }

        void fail(int broken) {
            if (rule == 0) {
                rule = broken;
            }
        }

        int take(int n) {
            if (rule != 0) {
                return 0;
            }
            if (n > 8 * row.size - seen) {
                seen = 8 * row.size;
                rule = ENDS_EARLY;
                return 0;
            }
            int v = 0;
            for (int i = 0; i < n; i++) {
                v |= (row.bytes[seen >> 3] >> (seen & 7) & 1) << i;
                seen++;
            }
            return v;
        }

        int sign(Code code) {
            if (rule != 0 || code.lone) {
                return rule != 0 ? 0 : code.row[0];
            }
            int value = 0;
            int first = 0;
            int place = 0;
            for (int n = 1; n <= LONGEST; n++) {
                if (seen >= 8 * row.size) {
                    rule = ENDS_EARLY;
                    return 0;
                }
                value = 2 * value + (row.bytes[seen >> 3] >> (seen & 7) & 1);
                seen++;
                int many = code.many[n];
                int at = place + value - first;
                if (value - first < many) {
                    return at >= 0 && at < code.row.length ? code.row[at] : 0;
                }
                place += many;
                first = 2 * (first + many);
            }
            return 0;
        }

        int howMany() {
            if (take(1) == 0) {
                return rule == 0 ? 1 : 0;
            }
            int n = take(3);
            int many = 1 + (1 << n) + take(n);
            if (many > MOST_KINDS) {
                fail(TOO_MANY_KINDS);
            }
            return rule == 0 ? many : 0;
        }

        int markLength() {
            if (take(1) == 0) {
                return take(1) == 0 ? 0 : 3;
            }
            if (take(1) == 0) {
                return 4;
            }
            if (take(1) == 0) {
                return 2;
            }
            return take(1) == 0 ? 1 : 5;
        }

        void toWholeByte() {
            if (take((8 - (seen & 7)) & 7) != 0) {
                fail(FILLED_BITS);
            }
        }

        void passOver(int bytes) {
            if (rule != 0) {
                return;
            }
            if (bytes > row.size - (seen >> 3)) {
                seen = 8 * row.size;
                rule = ENDS_EARLY;
                return;
            }
            seen += 8 * bytes;
        }

        boolean atEnd() {
            return seen >= 8 * row.size;
        }
    }

    /** A CODE as opening uses it: its signs by LENGTH and number, and how many each LENGTH has. */
    private static final class Code {
        private final int[] row;
        private final int[] many = new int[LONGEST + 1];
        private final int[] next = new int[LONGEST + 1];
        private boolean lone;

        Code(int most) {
            row = new int[most];
        }

        void setLone(int sign) {
            Arrays.fill(many, 0);
            row[0] = sign;
            lone = true;
        }

        void set(int[] lengths, int signs) {
            Arrays.fill(many, 0);
            lone = false;
            for (int i = 0; i < signs; i++) {
                many[lengths[i]]++;
            }
            // A LENGTH of 0 is none: such signs stand nowhere in the row.
            many[0] = 0;
            next[0] = 0;
            for (int n = 1; n <= LONGEST; n++) {
                next[n] = next[n - 1] + many[n - 1];
            }
            for (int i = 0; i < signs; i++) {
                int n = lengths[i];
                if (n > 0) {
                    row[next[n]] = i;
                    next[n]++;
                }
            }
        }

        int lengthOf(int sign) {
            int place = 0;
            for (int n = 1; n <= LONGEST; n++) {
                for (int i = 0; i < many[n]; i++) {
                    if (row[place + i] == sign) {
                        return n;
                    }
                }
                place += many[n];
            }
            return 0;
        }
    }

    /** Reads CODES and MAPS; keeps the rows that this needs, so that no call makes them anew. */
    private static final class CodeReader {
        private final BitSource source;
        private final Code marks = new Code(MARKS);
        private final Code mapCode = new Code(MOST_KINDS + MOST_RUNS);
        private final int[] markLengths = new int[MARKS];
        private final int[] lengths = new int[COMMAND_SIGNS];
        private final int[] told = new int[4];
        private final int[] front = new int[MOST_KINDS];

        CodeReader(BitSource source) {
            this.source = source;
        }

        void readCode(Code code, int signs) {
            int way = source.take(2);
            if (!source.fine()) {
                return;
            }
            Arrays.fill(lengths, 0);
            if (way == 1) {
                readShort(code, signs);
                return;
            }
            readMarks(way);
            readLong(signs);
            if (source.fine()) {
                code.set(lengths, signs);
            }
        }

        private void readShort(Code code, int signs) {
            int many = source.take(2) + 1;
            int width = widthOf(signs - 1);
            for (int i = 0; i < many && source.fine(); i++) {
                told[i] = source.take(width);
                if (told[i] >= signs || wasTold(i)) {
                    source.fail(WRONG_SIGN);
                }
            }
            boolean steep = many == 4 && source.take(1) == 1;
            if (!source.fine()) {
                return;
            }
            if (many == 1) {
                code.setLone(told[0]);
                return;
            }
            for (int i = 0; i < many; i++) {
                lengths[told[i]] = shortLength(many, i, steep);
            }
            code.set(lengths, signs);
        }

        private boolean wasTold(int latest) {
            for (int i = 0; i < latest; i++) {
                if (told[i] == told[latest]) {
                    return true;
                }
            }
            return false;
        }

        private static int shortLength(int many, int i, boolean steep) {
            if (many == 2) {
                return 1;
            }
            if (many == 3) {
                return i == 0 ? 1 : 2;
            }
            return steep ? Math.min(i + 1, 3) : 2;
        }

        private void readMarks(int skipped) {
            Arrays.fill(markLengths, 0);
            int room = WHOLE_MARKS;
            int many = 0;
            int latest = 0;
            for (int i = skipped; i < MARKS && room > 0; i++) {
                int n = source.markLength();
                if (!source.fine()) {
                    return;
                }
                if (n > 0) {
                    latest = MARK_ORDER[i];
                    markLengths[latest] = n;
                    many++;
                    room -= WHOLE_MARKS >> n;
                }
            }
            if (room < 0 || many == 0 || many > 1 && room != 0) {
                source.fail(WRONG_MARKS);
            } else if (many == 1) {
                marks.setLone(latest);
            } else {
                marks.set(markLengths, MARKS);
            }
        }

        private void readLong(int signs) {
            int room = WHOLE;
            int latest = 8;
            int before = 0;
            int repeated = 0;
            int at = 0;
            for (int turn = 0; turn < signs && at < signs && room > 0; turn++) {
                int mark = source.sign(marks);
                int now = 1;
                if (mark >= REPEAT_LATEST) {
                    int size = mark == REPEAT_LATEST ? 2 : 3;
                    int more = source.take(size);
                    int earlier = mark == before ? repeated : 0;
                    repeated = 3 + more + (earlier > 0 ? earlier - 2 << size : 0);
                    now = repeated - earlier;
                } else if (mark > 0) {
                    latest = mark;
                }
                if (source.fine() && at + now > signs) {
                    source.fail(WRONG_LENGTHS);
                }
                if (!source.fine()) {
                    return;
                }
                int n = mark == 0 || mark == REPEAT_ZERO ? 0 : latest;
                Arrays.fill(lengths, at, at + now, n);
                room -= n > 0 ? now * (WHOLE >> n) : 0;
                at += now;
                before = mark;
            }
            if (room != 0) {
                source.fail(WRONG_LENGTHS);
            }
        }

        /** Reads a MAP of n; with fewer than two TREES none is told and all is 0. */
        void readMap(int[] map, int n, int trees) {
            Arrays.fill(map, 0);
            if (trees < 2) {
                return;
            }
            int runs = source.take(1) == 1 ? source.take(4) + 1 : 0;
            readCode(mapCode, trees + runs);
            int at = 0;
            for (int turn = 0; turn < n && at < n && source.fine(); turn++) {
                int sign = source.sign(mapCode);
                if (sign == 0 || sign > runs) {
                    map[at] = Math.max(0, sign - runs);
                    at++;
                } else {
                    at += (1 << sign) + source.take(sign);
                    if (at > n) {
                        source.fail(RUN_BEYOND_MAP);
                    }
                }
            }
            if (source.take(1) == 1) {
                moveBack(map, n, trees);
            }
        }

        private void moveBack(int[] map, int n, int trees) {
            for (int i = 0; i < trees; i++) {
                front[i] = i;
            }
            for (int i = 0; i < n; i++) {
                int place = map[i];
                int tree = front[place];
                for (int j = place; j > 0; j--) {
                    front[j] = front[j - 1];
                }
                front[0] = tree;
                map[i] = tree;
            }
        }
    }

    /** The blocks of one SORT within a PART: the KIND at hand and how many it still has. */
    private static final class Blocks {
        private final Code changes = new Code(MOST_KINDS + 2);
        private final Code sizes = new Code(COUNT_SIGNS);
        private int kinds;
        private int kind;
        private int before;
        private int left;

        void start(int many, BitSource source, CodeReader reader) {
            kinds = many;
            kind = 0;
            before = 1;
            left = 0;
            if (kinds > 1) {
                reader.readCode(changes, kinds + 2);
                reader.readCode(sizes, COUNT_SIGNS);
                left = readCount(source);
            }
        }

        private int readCount(BitSource source) {
            if (!source.fine()) {
                return 0;
            }
            int sign = source.sign(sizes);
            return COUNT_BASES[sign] + source.take(COUNT_BITS[sign]);
        }

        /** Takes one of the KIND at hand, behind a change of it where none is left. */
        int advance(BitSource source) {
            if (kinds < 2) {
                return 0;
            }
            if (left == 0) {
                int sign = source.sign(changes);
                int earlier = kind;
                if (sign == 0) {
                    kind = before;
                } else if (sign == 1) {
                    kind = kind + 1 < kinds ? kind + 1 : 0;
                } else {
                    kind = sign - 2;
                }
                before = earlier;
                left = readCount(source);
            }
            left--;
            return kind;
        }
    }

    /** What a CODED PART tells ahead of its COMMANDS; what was not read is 0. */
    private static final class Coded {
        private final int[] kinds = new int[3];
        private final int[] trees = new int[3];
        private final int[] modes = new int[MOST_KINDS];
        private final int[] literalMap = new int[LITERAL_CONTEXTS * MOST_KINDS];
        private final int[] distanceMap = new int[DISTANCE_CONTEXTS * MOST_KINDS];
        private final Code[] literals = new Code[MOST_KINDS];
        private final Code[] commands = new Code[MOST_KINDS];
        private final Code[] distances = new Code[MOST_KINDS];
        private int postfix;
        private int direct;

        Coded() {
            for (int i = 0; i < MOST_KINDS; i++) {
                literals[i] = new Code(LITERAL_SIGNS);
                commands[i] = new Code(COMMAND_SIGNS);
                distances[i] = new Code(MOST_DISTANCE_SIGNS);
            }
        }

        void readFrom(BitSource source, CodeReader reader, Blocks[] blocks) {
            for (int sort = 0; sort < 3; sort++) {
                kinds[sort] = source.howMany();
                blocks[sort].start(kinds[sort], source, reader);
            }
            postfix = source.take(2);
            direct = source.take(4) << postfix;
            for (int i = 0; i < kinds[LITERALS]; i++) {
                modes[i] = source.take(2);
            }
            trees[LITERALS] = source.howMany();
            reader.readMap(literalMap, LITERAL_CONTEXTS * kinds[LITERALS], trees[LITERALS]);
            trees[COMMANDS] = kinds[COMMANDS];
            trees[DISTANCES] = source.howMany();
            reader.readMap(distanceMap, DISTANCE_CONTEXTS * kinds[DISTANCES], trees[DISTANCES]);
            for (int sort = 0; sort < 3; sort++) {
                for (int i = 0; i < trees[sort] && source.fine(); i++) {
                    reader.readCode(codesOf(sort)[i], signsOf(sort));
                }
            }
        }

        Code[] codesOf(int sort) {
            return sort == LITERALS ? literals : sort == COMMANDS ? commands : distances;
        }

        int signsOf(int sort) {
            if (sort == LITERALS) {
                return LITERAL_SIGNS;
            }
            return sort == COMMANDS ? COMMAND_SIGNS : 16 + direct + (48 << postfix);
        }
    }

    /** Opens the TAPE to OUT and keeps what was seen on the way. */
    private static final class Opener {
        private final Words words;
        private final Row made;
        private final BitSource source = new BitSource();
        private final CodeReader reader = new CodeReader(source);
        private final Blocks[] blocks = {new Blocks(), new Blocks(), new Blocks()};
        private final int[] lately = {4, 11, 15, 16};
        private final int[] facts = new int[PARTS_KEPT * PART_FACTS];
        private int parts;
        // A PART's CODES are shown only when all were read, so they are read into the spare one.
        private Coded shown = new Coded();
        private Coded spare = new Coded();
        private boolean hasShown;
        private int range;
        private boolean last;
        private int goal;

        Opener(Words words, Row made) {
            this.words = words;
            this.made = made;
        }

        int brokenRule() {
            return source.rule;
        }

        int bitsSeen() {
            return source.seen;
        }

        int partsMet() {
            return parts;
        }

        int partFact(int i, int what) {
            if (i < 0 || i >= Math.min(parts, PARTS_KEPT) || what < 0 || what >= PART_FACTS) {
                return BAD;
            }
            return facts[i * PART_FACTS + what];
        }

        int lateDistance(int i) {
            return i >= 0 && i < 4 ? lately[i] : BAD;
        }

        int mapNumber(int sort, int i) {
            if (!hasShown || sort < 0 || sort > 1 || i < 0) {
                return BAD;
            }
            if (sort == 0) {
                return i < LITERAL_CONTEXTS * shown.kinds[LITERALS] ? shown.literalMap[i] : BAD;
            }
            return i < DISTANCE_CONTEXTS * shown.kinds[DISTANCES] ? shown.distanceMap[i] : BAD;
        }

        int signLength(int sort, int tree, int sign) {
            if (!hasShown || sort < 0 || sort > 2 || tree < 0 || tree >= shown.trees[sort]
                    || sign < 0 || sign >= shown.signsOf(sort)) {
                return BAD;
            }
            return shown.codesOf(sort)[tree].lengthOf(sign);
        }

        void run(Row tape) {
            start(tape);
            if (source.take(16) != words.hash()) {
                source.fail(WRONG_DIGEST);
            }
            range = (1 << readSpan()) - 16;
            // A PART takes a bit at least, so that the TAPE's bits bound how many there are.
            for (int i = 0; i < 8 * MOST_TAPE && source.fine() && !last; i++) {
                int sort = readHead();
                if (sort == PASSED_OVER) {
                    passOver();
                } else if (sort == RAW) {
                    copyRaw();
                } else if (sort == CODED) {
                    spare.readFrom(source, reader, blocks);
                    noteCoded();
                    readCommands();
                }
            }
            source.toWholeByte();
            if (source.fine() && !source.atEnd()) {
                source.fail(BYTES_LEFT);
            }
        }

        private void start(Row tape) {
            source.start(tape);
            made.empty();
            System.arraycopy(RING_AT_FIRST, 0, lately, 0, 4);
            parts = 0;
            hasShown = false;
            last = false;
        }

        private int readSpan() {
            if (source.take(1) == 0) {
                return 16;
            }
            int w = source.take(3);
            if (w != 0) {
                return 17 + w;
            }
            w = source.take(3);
            if (w == 1) {
                source.fail(WRONG_SPAN);
            }
            return w == 0 ? 17 : 8 + w;
        }

        /** Reads up to where a PART's sort is sure; answers NO_PART if a RULE was broken ahead of it. */
        private int readHead() {
            last = source.take(1) == 1;
            if (last && source.take(1) == 1) {
                return notePart(EMPTY, 0);
            }
            int k = source.take(2);
            if (k == 3) {
                if (last) {
                    source.fail(WRONG_SORT);
                }
                return notePart(PASSED_OVER, 0);
            }
            int nibbles = 4 + k;
            int lessOne = source.take(4 * nibbles);
            if (nibbles > 4 && lessOne >> 4 * (nibbles - 1) == 0) {
                source.fail(IDLE_NUMBER);
            }
            if (made.size + lessOne + 1 > MOST_OPENED) {
                source.fail(TOO_MUCH_OUT);
            }
            boolean raw = !last && source.take(1) == 1;
            goal = made.size + lessOne + 1;
            return notePart(raw ? RAW : CODED, lessOne + 1);
        }

        private int notePart(int sort, int size) {
            if (!source.fine()) {
                return NO_PART;
            }
            if (parts < PARTS_KEPT) {
                int place = parts * PART_FACTS;
                Arrays.fill(facts, place, place + PART_FACTS, 0);
                facts[place] = sort;
                facts[place + FACT_LENGTH] = size;
            }
            parts++;
            return sort;
        }

        private void note(int fact, int value) {
            if (parts > 0 && parts <= PARTS_KEPT) {
                facts[(parts - 1) * PART_FACTS + fact] = value;
            }
        }

        private void noteOneMore(int fact) {
            if (parts > 0 && parts <= PARTS_KEPT) {
                facts[(parts - 1) * PART_FACTS + fact]++;
            }
        }

        private void noteCoded() {
            for (int sort = 0; sort < 3; sort++) {
                note(FACT_KINDS + sort, spare.kinds[sort]);
            }
            note(FACT_TREES, spare.trees[LITERALS]);
            note(FACT_TREES + 1, spare.trees[DISTANCES]);
            note(FACT_POSTFIX, spare.postfix);
            note(FACT_DIRECT, spare.direct);
            if (source.fine()) {
                Coded read = spare;
                spare = shown;
                shown = read;
                hasShown = true;
            }
        }

        private void passOver() {
            if (source.take(1) == 1) {
                source.fail(WRONG_SORT);
            }
            int size = source.take(2);
            int lessOne = source.take(8 * size);
            if (size > 1 && lessOne >> 8 * (size - 1) == 0) {
                source.fail(IDLE_NUMBER);
            }
            if (!source.fine() || size == 0) {
                source.toWholeByte();
                return;
            }
            note(FACT_LENGTH, lessOne + 1);
            source.toWholeByte();
            source.passOver(lessOne + 1);
        }

        private void copyRaw() {
            source.toWholeByte();
            for (int i = made.size; i < goal && source.fine(); i++) {
                made.addByte(source.take(8));
            }
        }

        private void readCommands() {
            // Each command makes a byte at least, so that what OUT may have bounds how many there are.
            for (int i = 0; i < MOST_OPENED && made.size < goal && source.fine(); i++) {
                readCommand();
            }
        }

        private void readCommand() {
            int kind = blocks[COMMANDS].advance(source);
            int sign = source.sign(shown.commands[kind]);
            int cell = sign / 64;
            int insertCode = 8 * CELL_INSERTS[cell] + sign / 8 % 8;
            int copyCode = 8 * CELL_COPIES[cell] + sign % 8;
            int insert = INSERT_BASES[insertCode] + source.take(INSERT_BITS[insertCode]);
            int copy = COPY_BASES[copyCode] + source.take(COPY_BITS[copyCode]);
            if (!source.fine()) {
                return;
            }
            noteOneMore(FACT_COMMANDS);
            if (insert > goal - made.size) {
                source.fail(BEYOND_LENGTH);
            }
            for (int i = 0; i < insert && source.fine(); i++) {
                readLiteral();
            }
            if (source.fine() && made.size < goal) {
                readDistance(cell < 2, copy);
            }
        }

        private void readLiteral() {
            int kind = blocks[LITERALS].advance(source);
            int context = contextOf(shown.modes[kind], made.at(made.size - 1), made.at(made.size - 2));
            int tree = shown.literalMap[LITERAL_CONTEXTS * kind + context];
            made.addByte(source.sign(shown.literals[tree]));
        }

        private void readDistance(boolean same, int copy) {
            int sign = 0;
            if (!same) {
                int kind = blocks[DISTANCES].advance(source);
                int tree = shown.distanceMap[DISTANCE_CONTEXTS * kind + Math.min(copy - 2, 3)];
                sign = source.sign(shown.distances[tree]);
            }
            int distance = distanceOf(sign);
            int most = Math.min(range, made.size);
            if (distance <= 0) {
                source.fail(NO_DISTANCE);
            }
            if (!source.fine()) {
                return;
            }
            if (distance > most) {
                makeWord(copy, distance - most - 1);
            } else {
                makeCopy(copy, distance, sign != 0);
            }
        }

        private int distanceOf(int sign) {
            if (sign < 4) {
                return lately[sign];
            }
            if (sign < 16) {
                int step = (sign - 4) % 6;
                int by = step / 2 + 1;
                return lately[sign < 10 ? 0 : 1] + (step % 2 == 0 ? -by : by);
            }
            if (sign < 16 + shown.direct) {
                return sign - 15;
            }
            int postfix = shown.postfix;
            int x = sign - shown.direct - 16;
            int n = 1 + (x >> postfix + 1);
            int high = (2 + (x >> postfix & 1) << n) - 4 + source.take(n);
            return (high << postfix) + (x & (1 << postfix) - 1) + shown.direct + 1;
        }

        private void makeCopy(int copy, int distance, boolean isNew) {
            if (copy > goal - made.size) {
                source.fail(BEYOND_LENGTH);
                return;
            }
            for (int i = 0; i < copy; i++) {
                made.addByte(made.at(made.size - distance));
            }
            if (isNew) {
                remember(lately, distance);
            }
            noteOneMore(FACT_COPIES);
        }

        private void makeWord(int length, int y) {
            int b = words.bitsOf(length);
            int number = y & (1 << b) - 1;
            int change = y >> b;
            if (!words.has(length, number)) {
                source.fail(NO_WORD);
                return;
            }
            if (change >= CHANGES) {
                source.fail(NO_CHANGE);
                return;
            }
            int size = words.sizeWith(length, change);
            if (size > goal - made.size) {
                source.fail(BEYOND_LENGTH);
                return;
            }
            for (int i = 0; i < size; i++) {
                made.addByte(words.byteWith(length, number, change, i));
            }
            noteOneMore(FACT_WORDS);
        }

        private static int contextOf(int mode, int p, int q) {
            switch (mode) {
                case 0:
                    return p & 63;
                case 1:
                    return p >> 2;
                case 2:
                    return firstOf(p) | secondOf(q);
                default:
                    return 8 * sizeOf(p) + sizeOf(q);
            }
        }

        private static int firstOf(int p) {
            if (p >= 128) {
                return (p & 1) + (p >= 192 ? 2 : 0);
            }
            if (p >= 'a' && p <= 'z') {
                return isVowel(p) ? 56 : 60;
            }
            if (p >= 'A' && p <= 'Z') {
                return isVowel(p + 32) ? 48 : 52;
            }
            if (p >= '0' && p <= '9') {
                return 44;
            }
            switch (p) {
                case 9: case 10: case 13:
                    return 4;
                case ' ':
                    return 8;
                case '"': case '\'':
                    return 16;
                case '%':
                    return 20;
                case '(': case '<': case '[': case '{':
                    return 24;
                case ')': case '>': case ']': case '}':
                    return 28;
                case ',': case ':': case ';':
                    return 32;
                case '.':
                    return 36;
                case '=':
                    return 40;
                default:
                    return p < 32 || p == 127 ? 0 : 12;
            }
        }

        private static boolean isVowel(int b) {
            return b == 'a' || b == 'e' || b == 'i' || b == 'o' || b == 'u';
        }

        private static int secondOf(int q) {
            if (q < 32 || q >= 127 && q < 192) {
                return 0;
            }
            if (q >= 'a' && q <= 'z') {
                return 3;
            }
            return q >= '0' && q <= '9' || q >= 'A' && q <= 'Z' || q >= 192 ? 2 : 1;
        }

        private static int sizeOf(int b) {
            if (b < 64) {
                return b == 0 ? 0 : b < 16 ? 1 : 2;
            }
            if (b < 192) {
                return b < 128 ? 3 : 4;
            }
            return b < 240 ? 5 : b < 255 ? 6 : 7;
        }
    }

    /** A CODE as packing makes it, from how often each sign is there. */
    private static final class MadeCode {
        private final int signs;
        private final int[] weights;
        private final int[] lengths;
        private final int[] values;
        // The signs that are there, lightest first; then weights and parents of these and of joined ones.
        private final int[] leaves;
        private final int[] heavy;
        private final int[] parents;
        private int used;

        MadeCode(int signs) {
            this.signs = signs;
            weights = new int[signs];
            lengths = new int[signs];
            values = new int[signs];
            leaves = new int[signs];
            heavy = new int[2 * signs];
            parents = new int[2 * signs];
        }

        void start() {
            Arrays.fill(weights, 0);
        }

        void weigh(int sign) {
            if (sign >= 0 && sign < signs) {
                weights[sign]++;
            }
        }

        /** Finds the LENGTHS, none above most; a lone sign has the one that is told. */
        void shape(int most, int loneLength) {
            Arrays.fill(lengths, 0);
            gatherLeaves();
            if (used == 1) {
                lengths[leaves[0]] = loneLength;
            }
            if (used < 2) {
                return;
            }
            int longest = joinLeaves();
            // Halving brings every weight to 1 or 2 long before the turns are over.
            for (int turn = 0; turn < 40 && longest > most; turn++) {
                for (int i = 0; i < used; i++) {
                    int sign = leaves[i];
                    weights[sign] = weights[sign] / 2 + 1;
                }
                gatherLeaves();
                longest = joinLeaves();
            }
            numberSigns();
        }

        private void gatherLeaves() {
            used = 0;
            for (int sign = 0; sign < signs; sign++) {
                int weight = weights[sign];
                if (weight > 0) {
                    int place = used;
                    for (int i = used; i > 0 && weights[leaves[i - 1]] > weight; i--) {
                        leaves[i] = leaves[i - 1];
                        place = i - 1;
                    }
                    leaves[place] = sign;
                    used++;
                }
            }
        }

        /** Joins the two least till one is left; joined ones come ever heavier, so they need no sorting. */
        private int joinLeaves() {
            for (int i = 0; i < used; i++) {
                heavy[i] = weights[leaves[i]];
            }
            int leaf = 0;
            int joined = used;
            int root = 2 * used - 2;
            for (int node = used; node <= root; node++) {
                int sum = 0;
                for (int i = 0; i < 2; i++) {
                    boolean takesLeaf = leaf < used && (joined >= node || heavy[leaf] <= heavy[joined]);
                    int least = takesLeaf ? leaf : joined;
                    if (takesLeaf) {
                        leaf++;
                    } else {
                        joined++;
                    }
                    parents[least] = node;
                    sum += heavy[least];
                }
                heavy[node] = sum;
            }
            return readDepths(root);
        }

        /** Weights are no longer needed when all is joined, so their row takes the depths. */
        private int readDepths(int root) {
            int longest = 0;
            heavy[root] = 0;
            for (int node = root - 1; node >= 0; node--) {
                heavy[node] = heavy[parents[node]] + 1;
                if (node < used) {
                    lengths[leaves[node]] = heavy[node];
                    longest = Math.max(longest, heavy[node]);
                }
            }
            return longest;
        }

        private void numberSigns() {
            int value = 0;
            for (int n = 1; n <= LONGEST; n++) {
                value *= 2;
                for (int sign = 0; sign < signs; sign++) {
                    if (lengths[sign] == n) {
                        values[sign] = value;
                        value++;
                    }
                }
            }
        }

        void put(int sign, Row to) {
            if (used < 2 || sign < 0 || sign >= signs) {
                return;
            }
            for (int i = lengths[sign] - 1; i >= 0; i--) {
                to.addBits(values[sign] >> i, 1);
            }
        }

        void tell(Row to, MadeCode marks) {
            if (used <= 4) {
                tellShort(to);
                return;
            }
            marks.start();
            walkMarks(marks, null);
            marks.shape(LONGEST_MARK, 1);
            to.addBits(0, 2);
            int room = WHOLE_MARKS;
            for (int i = 0; i < MARKS && room > 0; i++) {
                int n = marks.lengths[MARK_ORDER[i]];
                to.addBits(MARK_LENGTH_BITS[n], MARK_LENGTH_SIZES[n]);
                room -= n > 0 ? WHOLE_MARKS >> n : 0;
            }
            walkMarks(marks, to);
        }

        private void tellShort(Row to) {
            int width = widthOf(signs - 1);
            to.addBits(1, 2);
            to.addBits(Math.max(used, 1) - 1, 2);
            if (used < 2) {
                to.addBits(used == 1 ? leaves[0] : 0, width);
                return;
            }
            int longest = 0;
            for (int n = 1; n <= 3; n++) {
                for (int sign = 0; sign < signs; sign++) {
                    if (lengths[sign] == n) {
                        to.addBits(sign, width);
                        longest = n;
                    }
                }
            }
            if (used == 4) {
                to.addBits(longest == 3 ? 1 : 0, 1);
            }
        }

        /** Goes through the marks that tell the LENGTHS: weighs them, or, with a row, writes them. */
        private void walkMarks(MadeCode marks, Row to) {
            int stop = signs;
            for (int i = signs - 1; i >= 0 && lengths[i] == 0; i--) {
                stop = i;
            }
            int before = 0;
            int at = 0;
            for (int turn = 0; turn < signs && at < stop; turn++) {
                int zeros = before == REPEAT_ZERO ? 0 : zerosFrom(at);
                int mark = zeros < 3 ? lengths[at] : REPEAT_ZERO;
                if (to == null) {
                    marks.weigh(mark);
                } else {
                    marks.put(mark, to);
                    to.addBits(zeros - 3, mark == REPEAT_ZERO ? 3 : 0);
                }
                at += mark == REPEAT_ZERO ? zeros : 1;
                before = mark;
            }
        }

        private int zerosFrom(int at) {
            int zeros = 0;
            for (int i = at; i < signs && zeros < 10 && lengths[i] == 0; i++) {
                zeros++;
            }
            return zeros;
        }
    }

    /** Finds the best COPY and the best WORD at a place of the TAPE. */
    private static final class Finder {
        private static final int LEAST = 4, MOST_COPY = 200, HEADS = 1024;

        private final Words words;
        private final Row text;
        // The place before each one whose first four bytes are, or seem by their mix, the same.
        private final int[] earlier = new int[MOST_PACKED];
        private final int[] heads = new int[HEADS];
        private int copySize;
        private int copyBack;
        private int wordSize;
        // Of WORDS that make as many bytes the least of this is the one: by LENGTH, number, CHANGE.
        private int wordOrder;

        Finder(Words words, Row text) {
            this.words = words;
            this.text = text;
        }

        void start() {
            Arrays.fill(heads, -1);
            Arrays.fill(earlier, -1);
            for (int p = 0; p + LEAST <= text.size && p < MOST_PACKED; p++) {
                int mix = (text.at(p) * 331 + text.at(p + 1) * 79 + text.at(p + 2) * 19 + text.at(p + 3) * 5)
                        % HEADS;
                earlier[p] = heads[mix];
                heads[mix] = p;
            }
        }

        void findCopy(int p) {
            int most = Math.min(MOST_COPY, text.size - p);
            int best = LEAST - 1;
            int q = p >= 0 && p < MOST_PACKED ? earlier[p] : -1;
            for (int turn = 0; turn < MOST_PACKED && q >= 0 && best < most; turn++) {
                if (text.bytes[q + best] == text.bytes[p + best]) {
                    int alike = alike(q, p, most);
                    if (alike > best) {
                        best = alike;
                        copyBack = p - q;
                    }
                }
                q = earlier[q];
            }
            copySize = best >= LEAST ? best : 0;
        }

        private int alike(int q, int p, int most) {
            int size = 0;
            for (int i = 0; i < most && text.bytes[q + i] == text.bytes[p + i]; i++) {
                size = i + 1;
            }
            return size;
        }

        void findWord(int p) {
            int b = text.at(p);
            wordSize = 0;
            // A CHANGE adds two bytes at most, so the longest come first and spare looking at many others.
            for (int length = MOST_WORD; length >= LEAST_WORD; length--) {
                for (int number = 0; number < words.manyOf(length) && length + 2 >= wordSize; number++) {
                    if (words.mayBegin(length, number, b)) {
                        tryCores(p, p, length, number);
                    }
                    if (b == ' ' && words.mayBegin(length, number, text.at(p + 1))) {
                        tryCores(p, p + 1, length, number);
                    }
                }
            }
        }

        private void tryCores(int p, int from, int length, int number) {
            for (int how = 0; how < 6; how++) {
                int core = words.coreAt(text, from, length, number, how);
                int till = from + core;
                if (core > 0 && from > p) {
                    keepBetter(till - p, length, number, 12 + how);
                } else if (core > 0) {
                    keepBetter(core, length, number, how);
                    if (till < text.size && text.at(till) == ' ') {
                        keepBetter(core + 1, length, number, 6 + how);
                    }
                    if (till + 1 < text.size && text.at(till) == ',' && text.at(till + 1) == ' ') {
                        keepBetter(core + 2, length, number, 18 + how);
                    }
                }
            }
        }

        private void keepBetter(int size, int length, int number, int change) {
            int order = (length * WORDS_EACH + number) * CHANGES + change;
            if (size >= LEAST && (size > wordSize || size == wordSize && order < wordOrder)) {
                wordSize = size;
                wordOrder = order;
            }
        }

        int wordLength() {
            return wordOrder / CHANGES / WORDS_EACH;
        }

        int wordAway(int p) {
            int number = wordOrder / CHANGES % WORDS_EACH;
            return p + 1 + (wordOrder % CHANGES << words.bitsOf(wordLength())) + number;
        }
    }

    /** Packs the TAPE to OUT and keeps the commands. */
    private static final class Packer {
        private static final int LITERAL_COST = 9, OTHER_COST = 24;
        private static final int MOST_COMMANDS = MOST_PACKED / 4 + 1;

        private final Words words;
        private final Row text;
        private final Row made;
        private final Finder finder;
        private final MadeCode literals = new MadeCode(LITERAL_SIGNS);
        private final MadeCode commands = new MadeCode(COMMAND_SIGNS);
        private final MadeCode distances = new MadeCode(64);
        private final MadeCode marks = new MadeCode(MARKS);
        // What is chosen at each place: bytes made, COPY (0: a literal), DISTANCE, whether it is a WORD.
        private final int[] steps = new int[MOST_PACKED];
        private final int[] copies = new int[MOST_PACKED];
        private final int[] aways = new int[MOST_PACKED];
        private final boolean[] areWords = new boolean[MOST_PACKED];
        private final int[] costs = new int[MOST_PACKED + 1];
        // The facts of each command, as command() tells them; then its distance's sign, or -1.
        private final int[][] facts = new int[5][MOST_COMMANDS];
        private final int[] lately = new int[4];
        private int many;

        Packer(Words words, Row text, Row made) {
            this.words = words;
            this.text = text;
            this.made = made;
            finder = new Finder(words, text);
        }

        int commandsMade() {
            return many;
        }

        int commandFact(int i, int what) {
            return i >= 0 && i < many && what >= 0 && what < 4 ? facts[what][i] : BAD;
        }

        void run(int level) {
            many = 0;
            made.empty();
            made.addBits(words.hash(), 16);
            made.addBits(0, 1);
            if (level > 0 && text.size > 0) {
                finder.start();
                plan(level);
                gatherCommands();
                writeCoded();
                return;
            }
            if (text.size > 0) {
                writeRaw();
            }
            made.addBits(3, 2);
        }

        private void writeRaw() {
            made.addBits(0, 3);
            made.addBits(text.size - 1, 16);
            made.addBits(1, 1);
            made.toWholeByte();
            for (int i = 0; i < text.size; i++) {
                made.addByte(text.at(i));
            }
        }

        private void plan(int level) {
            int size = Math.min(text.size, MOST_PACKED);
            if (level == 1) {
                int p = 0;
                for (int turn = 0; turn < size && p < size; turn++) {
                    chooseLongest(p);
                    p += steps[p];
                }
                return;
            }
            costs[size] = 0;
            for (int p = size - 1; p >= 0; p--) {
                chooseCheapest(p);
            }
        }

        private void chooseLongest(int p) {
            finder.findCopy(p);
            finder.findWord(p);
            if (finder.copySize > 0 && finder.copySize >= finder.wordSize) {
                chooseCopy(p);
            } else if (finder.wordSize > 0) {
                chooseWord(p);
            } else {
                chooseLiteral(p);
            }
        }

        private void chooseCheapest(int p) {
            finder.findCopy(p);
            finder.findWord(p);
            chooseLiteral(p);
            costs[p] = LITERAL_COST + costs[p + 1];
            if (finder.wordSize > 0 && OTHER_COST + costs[p + finder.wordSize] <= costs[p]) {
                chooseWord(p);
                costs[p] = OTHER_COST + costs[p + finder.wordSize];
            }
            if (finder.copySize > 0 && OTHER_COST + costs[p + finder.copySize] <= costs[p]) {
                chooseCopy(p);
                costs[p] = OTHER_COST + costs[p + finder.copySize];
            }
        }

        private void chooseLiteral(int p) {
            steps[p] = 1;
            copies[p] = 0;
        }

        private void chooseCopy(int p) {
            steps[p] = finder.copySize;
            copies[p] = finder.copySize;
            aways[p] = finder.copyBack;
            areWords[p] = false;
        }

        private void chooseWord(int p) {
            steps[p] = finder.wordSize;
            copies[p] = finder.wordLength();
            aways[p] = finder.wordAway(p);
            areWords[p] = true;
        }

        private void gatherCommands() {
            System.arraycopy(RING_AT_FIRST, 0, lately, 0, 4);
            int insert = 0;
            int p = 0;
            for (int turn = 0; turn < MOST_PACKED && p < text.size; turn++) {
                if (copies[p] == 0) {
                    insert++;
                } else {
                    int sign = distanceSign(aways[p]);
                    addCommand(insert, copies[p], aways[p], sign);
                    if (!areWords[p] && sign != 0) {
                        remember(lately, aways[p]);
                    }
                    insert = 0;
                }
                p += steps[p];
            }
            if (insert > 0) {
                addCommand(insert, 0, 0, -1);
            }
        }

        private int distanceSign(int distance) {
            for (int i = 0; i < 4; i++) {
                if (lately[i] == distance) {
                    return i;
                }
            }
            int n = distanceBits(distance);
            return 16 + 2 * (n - 1) + (distance + 3 >> n & 1);
        }

        private static int distanceBits(int distance) {
            return Math.max(1, widthOf(distance + 3) - 2);
        }

        /** Keeps a command; where its sign tells the distance, too, none is kept for writing. */
        private void addCommand(int insert, int copy, int distance, int distanceSign) {
            if (many >= MOST_COMMANDS) {
                return;
            }
            int insertCode = codeOf(INSERT_BASES, insert);
            int copyCode = codeOf(COPY_BASES, copy);
            boolean told = distanceSign == 0 && insertCode < 8 && copyCode < 16;
            int cell = told ? copyCode / 8 : CELL_OF_CODES[insertCode / 8 * 3 + copyCode / 8];
            facts[0][many] = insert;
            facts[1][many] = copy;
            facts[2][many] = distance;
            facts[3][many] = 64 * cell + insertCode % 8 * 8 + copyCode % 8;
            facts[4][many] = told ? -1 : distanceSign;
            many++;
        }

        private void writeCoded() {
            made.addBits(1, 4);
            made.addBits(text.size - 1, 16);
            // One KIND of each SORT, no POSTFIX, no DIRECT, MODE 0 and one TREE each are all 0s.
            made.addBits(0, 13);
            weighSigns();
            literals.shape(LONGEST, 0);
            literals.tell(made, marks);
            commands.shape(LONGEST, 0);
            commands.tell(made, marks);
            distances.shape(LONGEST, 0);
            distances.tell(made, marks);
            int p = 0;
            for (int i = 0; i < many; i++) {
                writeCommand(i, p);
                p += facts[0][i];
                p += p < text.size ? steps[p] : 0;
            }
        }

        private void weighSigns() {
            literals.start();
            commands.start();
            distances.start();
            int p = 0;
            for (int turn = 0; turn < MOST_PACKED && p < text.size; turn++) {
                if (copies[p] == 0) {
                    literals.weigh(text.at(p));
                }
                p += steps[p];
            }
            for (int i = 0; i < many; i++) {
                commands.weigh(facts[3][i]);
                distances.weigh(facts[4][i]);
            }
        }

        private void writeCommand(int i, int p) {
            int insert = facts[0][i];
            int copy = Math.max(2, facts[1][i]);
            int insertCode = codeOf(INSERT_BASES, insert);
            int copyCode = codeOf(COPY_BASES, copy);
            commands.put(facts[3][i], made);
            made.addBits(insert - INSERT_BASES[insertCode], INSERT_BITS[insertCode]);
            made.addBits(copy - COPY_BASES[copyCode], COPY_BITS[copyCode]);
            for (int j = 0; j < insert; j++) {
                literals.put(text.at(p + j), made);
            }
            int sign = facts[4][i];
            distances.put(sign, made);
            if (sign > 15) {
                made.addBits(facts[2][i] + 3, distanceBits(facts[2][i]));
            }
        }
    }
}
