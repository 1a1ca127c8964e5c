import java.util.ArrayList;
import java.util.List;

/** Packing as the document says it, in the plainest way: every place before, every word and CHANGE is tried. */
final class PlainPacker {
    private static final int[] INSERTS = {
        0, 1, 2, 3, 4, 5, 6, 8, 10, 14, 18, 26, 34, 50, 66, 98, 130, 194, 322, 578, 1090, 2114, 6210, 22594, 1 << 30};
    private static final int[] COPIES = {
        2, 3, 4, 5, 6, 7, 8, 9, 10, 12, 14, 18, 22, 30, 38, 54, 70, 102, 134, 198, 326, 582, 1094, 2118, 1 << 30};
    private static final int[] ORDER = {1, 2, 3, 4, 0, 5, 17, 6, 16, 7, 8, 9, 10, 11, 12, 13, 14, 15};
    private static final String[] MARK_LENGTHS = {"00", "1110", "110", "01", "10", "1111"};

    /** What may be chosen at a place; copy is 0 for a literal. */
    private record Step(int made, int copy, int distance, boolean isWord) {
    }

    /** Where its literals begin, how many there are, COPY, DISTANCE, the sign, and the distance's sign (or -1). */
    private record Command(int from, int insert, int copy, int distance, int sign, int distanceSign) {
    }

    private final String text;
    private final String[] words;
    private final List<Command> commands = new ArrayList<>();

    PlainPacker(String text, String[] words, int level) {
        this.text = text;
        this.words = words;
        gather(level == 1 ? longest() : cheapest());
    }

    String commands() {
        StringBuilder all = new StringBuilder();
        for (Command c : commands) {
            all.append(c.insert + " " + c.copy + " " + c.distance + " " + c.sign + " | ");
        }
        return all.toString();
    }

    Bench.Stream stream(Bench.Stream s) {
        s.coded(true, text.length()).plain();
        int[] literals = new int[256];
        int[] signs = new int[704];
        int[] distances = new int[64];
        for (Command c : commands) {
            for (int i = 0; i < c.insert; i++) {
                literals[text.charAt(c.from + i)]++;
            }
            signs[c.sign]++;
            distances[c.distanceSign < 0 ? 0 : c.distanceSign] += c.distanceSign < 0 ? 0 : 1;
        }
        String[] literalCode = tell(s, literals);
        String[] signCode = tell(s, signs);
        String[] distanceCode = tell(s, distances);
        for (Command c : commands) {
            int insertCode = codeOf(INSERTS, c.insert);
            int copyCode = c.copy == 0 ? 0 : codeOf(COPIES, c.copy);
            s.row(signCode[c.sign]).put(c.insert - INSERTS[insertCode], bitsOf(INSERTS, insertCode));
            s.put(c.copy == 0 ? 0 : c.copy - COPIES[copyCode], bitsOf(COPIES, copyCode));
            for (int i = 0; i < c.insert; i++) {
                s.row(literalCode[text.charAt(c.from + i)]);
            }
            s.row(c.distanceSign < 0 ? "" : distanceCode[c.distanceSign]);
            if (c.distanceSign > 15) {
                s.put(c.distance - firstOf(c.distanceSign), 1 + (c.distanceSign - 16) / 2);
            }
        }
        return s;
    }

    private static int codeOf(int[] bases, int v) {
        int code = 0;
        while (bases[code + 1] <= v) {
            code++;
        }
        return code;
    }

    private static int bitsOf(int[] bases, int code) {
        return 31 - Integer.numberOfLeadingZeros(bases[code + 1] - bases[code]);
    }

    /** The least distance of a sign from 16 on: by twos, they have 1, 1, 2, 2, 3, .. bits. */
    private static int firstOf(int sign) {
        int first = 1;
        for (int s = 16; s < sign; s++) {
            first += 1 << 1 + (s - 16) / 2;
        }
        return first;
    }

    private Step copyAt(int p) {
        Step best = null;
        for (int q = p - 1; q >= 0; q--) {
            int m = 0;
            while (m < 200 && p + m < text.length() && text.charAt(q + m) == text.charAt(p + m)) {
                m++;
            }
            if (m >= 4 && (best == null || m > best.made)) {
                best = new Step(m, m, p - q, false);
            }
        }
        return best;
    }

    private Step wordAt(int p) {
        Step best = null;
        for (int length = 4; length <= 10; length++) {
            int many = 0;
            for (String word : words) {
                many += word.length() == length ? 1 : 0;
            }
            int room = 1;
            while (room < many) {
                room *= 2;
            }
            int number = 0;
            for (String word : words) {
                for (int change = 0; change < 24 && word.length() == length; change++) {
                    String bytes = changed(word, change);
                    if (bytes.length() >= 4 && text.startsWith(bytes, p) && (best == null || bytes.length() > best.made)) {
                        best = new Step(bytes.length(), length, p + 1 + change * room + number, true);
                    }
                }
                number += word.length() == length ? 1 : 0;
            }
        }
        return best;
    }

    static String changed(String word, int change) {
        StringBuilder core = new StringBuilder(word);
        int how = change % 6;
        for (int i = 0; i < (how == 1 ? 1 : how == 2 ? word.length() : 0); i++) {
            char c = word.charAt(i);
            core.setCharAt(i, c >= 'a' && c <= 'z' ? (char) (c - 32) : c);
        }
        if (how == 3) {
            core.deleteCharAt(0);
        }
        if (how > 3) {
            core.setLength(word.length() + 3 - how);
        }
        return (change / 6 == 2 ? " " : "") + core + (change / 6 == 1 ? " " : change / 6 == 3 ? ", " : "");
    }

    private Step[] longest() {
        Step[] steps = new Step[text.length()];
        for (int p = 0; p < text.length(); p += steps[p].made) {
            Step copy = copyAt(p);
            Step word = wordAt(p);
            steps[p] = new Step(1, 0, 0, false);
            steps[p] = word != null ? word : steps[p];
            steps[p] = copy != null && copy.made >= steps[p].made ? copy : steps[p];
        }
        return steps;
    }

    private Step[] cheapest() {
        Step[] steps = new Step[text.length()];
        int[] costs = new int[text.length() + 1];
        for (int p = text.length() - 1; p >= 0; p--) {
            costs[p] = Integer.MAX_VALUE;
            for (Step step : new Step[] {copyAt(p), wordAt(p), new Step(1, 0, 0, false)}) {
                if (step != null && costs[p + step.made] + (step.copy == 0 ? 9 : 24) < costs[p]) {
                    costs[p] = costs[p + step.made] + (step.copy == 0 ? 9 : 24);
                    steps[p] = step;
                }
            }
        }
        return steps;
    }

    private void gather(Step[] steps) {
        List<Integer> ring = new ArrayList<>(List.of(4, 11, 15, 16));
        int from = 0;
        for (int p = 0; p < text.length(); p += steps[p].made) {
            Step step = steps[p];
            if (step.copy > 0) {
                int sign = ring.indexOf(step.distance);
                add(from, p - from, step.copy, step.distance, sign);
                if (!step.isWord && sign != 0) {
                    ring.add(0, step.distance);
                    ring.remove(4);
                }
                from = p + step.made;
            }
        }
        if (from < text.length()) {
            add(from, text.length() - from, 0, 0, -2);
        }
    }

    private void add(int from, int insert, int copy, int distance, int ringSign) {
        int insertCode = codeOf(INSERTS, insert);
        int copyCode = copy == 0 ? 0 : codeOf(COPIES, copy);
        int rest = insertCode % 8 * 8 + copyCode % 8;
        if (ringSign == 0 && insertCode < 8 && copyCode < 16) {
            commands.add(new Command(from, insert, copy, distance, 64 * (copyCode / 8) + rest, -1));
            return;
        }
        int[] inserts = {0, 0, 1, 1, 0, 2, 1, 2, 2};
        int[] copies = {0, 1, 0, 1, 2, 0, 2, 1, 2};
        int cell = 0;
        while (inserts[cell] != insertCode / 8 || copies[cell] != copyCode / 8) {
            cell++;
        }
        int distanceSign = ringSign >= 0 ? ringSign : -1;
        for (int sign = 16; ringSign == -1 && firstOf(sign) <= distance; sign++) {
            distanceSign = sign;
        }
        commands.add(new Command(from, insert, copy, distance, 64 * (cell + 2) + rest, distanceSign));
    }

    /** Tells a CODE of how often each sign is there; answers the bits of each sign. */
    static String[] tell(Bench.Stream s, int[] weights) {
        int[] lengths = lengthsOf(weights, 15);
        List<Integer> there = new ArrayList<>();
        for (int n = 0; n <= 15; n++) {
            for (int sign = 0; sign < weights.length; sign++) {
                if (weights[sign] > 0 && lengths[sign] == n) {
                    there.add(sign);
                }
            }
        }
        if (there.size() <= 4) {
            if (there.isEmpty()) {
                there.add(0);
            }
            s.row("10").put(there.size() - 1, 2);
            for (int sign : there) {
                s.put(sign, 32 - Integer.numberOfLeadingZeros(weights.length - 1));
            }
            s.row(there.size() < 4 ? "" : lengths[there.get(3)] == 3 ? "1" : "0");
        } else {
            tellMarks(s, lengths, lastOf(weights));
        }
        return bitsOf(lengths);
    }

    private static int lastOf(int[] weights) {
        int last = 0;
        for (int sign = 0; sign < weights.length; sign++) {
            last = weights[sign] > 0 ? sign : last;
        }
        return last;
    }

    private static void tellMarks(Bench.Stream s, int[] lengths, int last) {
        List<int[]> marks = new ArrayList<>();
        int[] often = new int[18];
        for (int i = 0; i <= last; ) {
            int zeros = 0;
            while (zeros < 10 && lengths[i + zeros] == 0) {
                zeros++;
            }
            boolean was17 = !marks.isEmpty() && marks.get(marks.size() - 1)[0] == 17;
            boolean run = zeros >= 3 && !was17;
            marks.add(new int[] {run ? 17 : lengths[i], zeros});
            often[run ? 17 : lengths[i]]++;
            i += run ? zeros : 1;
        }
        int[] markLengths = lengthsOf(often, 5);
        String[] bits = bitsOf(markLengths);
        int kinds = 0;
        for (int mark = 0; mark < 18; mark++) {
            kinds += often[mark] > 0 ? 1 : 0;
        }
        s.row("00");
        int sum = 0;
        for (int i = 0; i < 18 && sum < 32; i++) {
            int n = kinds == 1 && often[ORDER[i]] > 0 ? 1 : markLengths[ORDER[i]];
            s.row(MARK_LENGTHS[n]);
            sum += n == 0 ? 0 : 32 >> n;
        }
        for (int[] mark : marks) {
            s.row(bits[mark[0]]).put(mark[1] - 3, mark[0] == 17 ? 3 : 0);
        }
    }

    /** The two least are joined, till one is left; a group's first number is its weight, the others its signs. */
    private static int[] lengthsOf(int[] weights, int most) {
        int[] now = weights.clone();
        for (;;) {
            List<List<Integer>> groups = new ArrayList<>();
            for (int sign = 0; sign < now.length; sign++) {
                if (now[sign] > 0) {
                    groups.add(new ArrayList<>(List.of(now[sign], sign)));
                }
            }
            int[] lengths = new int[now.length];
            int longest = 0;
            while (groups.size() > 1) {
                List<Integer> joined = new ArrayList<>(takeLeast(groups));
                List<Integer> other = takeLeast(groups);
                joined.set(0, joined.get(0) + other.get(0));
                joined.addAll(other.subList(1, other.size()));
                for (int sign : joined.subList(1, joined.size())) {
                    lengths[sign]++;
                    longest = Math.max(longest, lengths[sign]);
                }
                groups.add(joined);
            }
            if (longest <= most) {
                return lengths;
            }
            for (int sign = 0; sign < now.length; sign++) {
                now[sign] = now[sign] > 0 ? now[sign] / 2 + 1 : 0;
            }
        }
    }

    private static List<Integer> takeLeast(List<List<Integer>> groups) {
        int least = 0;
        for (int i = 1; i < groups.size(); i++) {
            least = groups.get(i).get(0) < groups.get(least).get(0) ? i : least;
        }
        return groups.remove(least);
    }

    /** "the first is 0; the next one is that and 1, times 2 for each bit that it is longer" */
    private static String[] bitsOf(int[] lengths) {
        String[] bits = new String[lengths.length];
        java.util.Arrays.fill(bits, "");
        int code = -1;
        int before = 0;
        for (int n = 1; n <= 15; n++) {
            for (int sign = 0; sign < lengths.length; sign++) {
                if (lengths[sign] == n) {
                    code = code < 0 ? 0 : code + 1 << n - before;
                    before = n;
                    bits[sign] = Integer.toBinaryString(1 << n | code).substring(1);
                }
            }
        }
        return bits;
    }
}
